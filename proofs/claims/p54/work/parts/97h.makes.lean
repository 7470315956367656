/-! the constructors -/
/-- how many cells there are, and what they cost -/
def Nw (h : XH) (k c s : Nat) : Prop := h.2 = (some k, (c, s))
theorem Nw.cv {h : XH} {k c s k2 c2 s2 : Nat} (e : Nw h k c s) (e1 : k = k2) (e2 : c = c2) (e3 : s = s2) : Nw h k2 c2 s2 := by
  subst e1; subst e2; subst e3; exact e
theorem Nw.mv {h h2 : XH} {k c s : Nat} (e : h2.2 = h.2) (n : Nw h k c s) : Nw h2 k c s := e.trans n
def DA (f : Nat → Option XE) (a n : Nat) : Prop := ∃ F, f a = some (.inl (2, (n, .inr (.inr (.inr (.inl F))))))
section XNW
variable {S : XSc} {d mid pc : Nat} {lv : XLv} {st : List Value} {h : XH} {Q : XO → XH → Prop} {k c s : Nat}
theorem xs_newO (pc2 : Nat) {i ci n : Nat} {fs : List Value} {ts : List Nat} (hr : xT.1 mid pc = some (.new i, ((ci, n), (fs, ts)))) (ht : xthr (.new i, ((ci, n), (fs, ts))) = none) (hp : pc + 3 = pc2) (hk : Nw h k c s) (kk : ∀ h2 : XH, h2.1 (32 + k) = some (.inr (ci, fs)) → (∀ x, x ≠ 32 + k → h2.1 x = h.1 x) → Nw h2 (k + 1) (c + 1) (s + n) → xP S d mid pc2 lv (.ref (32 + k) :: st) h2 Q) : xP S d mid pc lv st h Q := by
  unfold Nw at hk
  refine xs_h pc2 hr ht hp (st2 := .ref (32 + k) :: st) (h2 := (xup h.1 (32 + k) (.inr (ci, fs)), (some (k + 1), (c + 1, s + n)))) ?_ (kk _ xup_s (fun x hx => xup_n hx) rfl)
  show xnew1 32 ci n fs h st = _
  unfold xnew1
  rw [hk]
theorem xs_newA (pc2 t N : Nat) {ty : ArrayType} {k0 : XK} (hr : xT.1 mid pc = some (.newarray ty, k0)) (hty : xtA ty = t) (hp : pc + 2 = pc2) {idx : Int32} (hidx : idx = nI N) (hN : N < 65536) {z : vp_A} (hz : xzero t N = some z) (hk : Nw h k c s) (kk : ∀ h2 : XH, h2.1 (32 + k) = some (.inl (t, z)) → (∀ x, x ≠ 32 + k → h2.1 x = h.1 x) → Nw h2 (k + 1) (c + 1) (s + N) → xP S d mid pc2 lv (.ref (32 + k) :: st) h2 Q) : xP S d mid pc lv (.int idx :: st) h Q := by
  unfold Nw at hk
  subst hidx
  subst hty
  obtain ⟨i1, i2⟩ := xin_nI hN (Nat.le_refl _)
  refine xs_h pc2 hr rfl hp (st2 := .ref (32 + k) :: st) (h2 := (xup h.1 (32 + k) (.inl (xtA ty, z)), (some (k + 1), (c + 1, s + N)))) ?_ (kk _ xup_s (fun x hx => xup_n hx) rfl)
  show xnewa 32 ty h (.int (nI N) :: st) = _
  unfold xnewa
  simp only [hk, i1, i2, cond_true, hz]
theorem xs_newQ (pc2 ci N : Nat) {i n0 : Nat} {r0 : List Value × List Nat} (hr : xT.1 mid pc = some (.anewarray i, ((ci, n0), r0))) (hp : pc + 3 = pc2) (h6 : Nat.beq (r0.2.headD 9) 6 = false := by rfl) {idx : Int32} (hidx : idx = nI N) (hN : N < 65536) (hk : Nw h k c s) (kk : ∀ h2 : XH, h2.1 (32 + k) = some (.inl (10 + ci, (N, .inr (.inr (.inr (.inr (fun _ => none))))))) → (∀ x, x ≠ 32 + k → h2.1 x = h.1 x) → Nw h2 (k + 1) (c + 1) (s + N) → xP S d mid pc2 lv (.ref (32 + k) :: st) h2 Q) : xP S d mid pc lv (.int idx :: st) h Q := by
  unfold Nw at hk
  subst hidx
  obtain ⟨i1, i2⟩ := xin_nI hN (Nat.le_refl _)
  refine xs_h pc2 hr rfl hp (st2 := .ref (32 + k) :: st) (h2 := (xup h.1 (32 + k) (.inl (10 + ci, (N, .inr (.inr (.inr (.inr (fun _ => none))))))), (some (k + 1), (c + 1, s + N)))) ?_ (kk _ xup_s (fun x hx => xup_n hx) rfl)
  show (bif Nat.beq (r0.2.headD 9) 6 then xnewqI 32 h (.int (nI N) :: st) else xnewq 32 ci h (.int (nI N) :: st)) = _
  rw [h6]
  show xnewq 32 ci h (.int (nI N) :: st) = _
  unfold xnewq
  simp only [hk, i1, i2, cond_true]
theorem xs_newM (pc2 N M : Nat) {i : Nat} {k0 : XK} (hr : xT.1 mid pc = some (.multianewarray i 2, k0)) (hp : pc + 4 = pc2) {x y : Int32} (hx : x = nI N) (hy : y = nI M) (hN : N < 65536) (hM : M < 65536) (hk : Nw h k c s) (kk : ∀ h2 : XH, h2.1 (32 + k) = some (.inl (9, (N, .inr (.inr (.inr (.inr (fun i => if i < N then some (32 + k + 1 + i) else none))))))) → (∀ j, j < N → h2.1 (32 + k + 1 + j) = some (.inl (1, (M, .inr (.inl (fun _ => 0)))))) → (∀ x, x < 32 + k → h2.1 x = h.1 x) → Nw h2 (k + 1 + N) (c + (1 + N)) (s + (N + N * M)) → xP S d mid pc2 lv (.ref (32 + k) :: st) h2 Q) : xP S d mid pc lv (.int y :: .int x :: st) h Q := by
  unfold Nw at hk
  subst hx
  subst hy
  obtain ⟨i1, i2⟩ := xin_nI hN (Nat.le_refl _)
  obtain ⟨i3, i4⟩ := xin_nI hM (Nat.le_refl _)
  refine xs_h pc2 hr rfl hp (st2 := .ref (32 + k) :: st) (h2 := ((fun b => if 32 + k < b ∧ b ≤ 32 + k + N then some (.inl (1, (M, .inr (.inl (fun _ => 0))))) else if b = 32 + k then some (.inl (9, (N, .inr (.inr (.inr (.inr (fun i => if i < N then some (32 + k + 1 + i) else none))))))) else h.1 b), (some (k + 1 + N), (c + (1 + N), s + (N + N * M))))) ?_ (kk _ ?_ (fun j hj => ?_) (fun x hx => ?_) rfl)
  · show (bif Nat.beq 2 2 then xnewm 32 h (.int (nI M) :: .int (nI N) :: st) else none) = _
    show xnewm 32 h (.int (nI M) :: .int (nI N) :: st) = _
    unfold xnewm
    simp only [hk, i1, i2, i3, i4, Bool.and_self, cond_true]
  · show (if 32 + k < 32 + k ∧ 32 + k ≤ 32 + k + N then _ else if 32 + k = 32 + k then _ else _) = _
    rw [if_neg (by omega), if_pos rfl]
  · show (if 32 + k < 32 + k + 1 + j ∧ 32 + k + 1 + j ≤ 32 + k + N then _ else _) = _
    rw [if_pos (by omega)]
  · show (if 32 + k < x ∧ x ≤ 32 + k + N then _ else if x = 32 + k then _ else _) = _
    rw [if_neg (by omega), if_neg (by omega)]
theorem xs_astR0 {k0 : XK} {i : Instr} {a n j t b : Nat} {idx : Int32} (pc2 : Nat) (hr : xT.1 mid pc = some (i, k0)) (hi : ∀ ro st, xheap ro 32 (i, k0) st h = xast h 4 st) (hp : pc + 1 = pc2) (ht : xthr (i, k0) = none) (hl : xle (i, k0) = 1) (hidx : idx = nI j) {F : Nat → Option Nat} (ha : h.1 a = some (.inl (t, (n, .inr (.inr (.inr (.inr F))))))) (hj : j < n) (hn : n ≤ 65536) (htk : xtk 4 t = true) {q : Nat × List Value} (hb : h.1 b = some (.inr q)) (hq : Nat.beq t (10 + q.1) = true) (kk : ∀ h2 : XH, h2.1 a = some (.inl (t, (n, .inr (.inr (.inr (.inr (va_up F j (some b)))))))) → (∀ x, x ≠ a → h2.1 x = h.1 x) → h2.2 = h.2 → xP S d mid pc2 lv st h2 Q) : xP S d mid pc lv (.ref b :: .int idx :: .ref a :: st) h Q := by
  refine xs_ast pc2 4 hr hi hp ht hl hidx ha htk hj hn (y := (n, .inr (.inr (.inr (.inr (va_up F j (some b))))))) ?_ (kk _ xup_s (fun x hx => xup_n hx) rfl)
  show (match h.1 b with
      | some (.inr q) => bif Nat.beq t (10 + q.1) then some ((n, Sum.inr (Sum.inr (Sum.inr (Sum.inr (va_up F j (some b)))))) : vp_A) else none
      | _ => none) = _
  rw [hb]
  simp only [hq, cond_true]
end XNW
theorem va_up_s {F : Nat → Option Nat} {j b : Nat} : va_up F j (some b) j = some b := if_pos rfl
theorem va_up_n {F : Nat → Option Nat} {j b x : Nat} (h : x ≠ j) : va_up F j (some b) x = F x := if_neg h
theorem n_0 {S : XSc} {d : Nat} {h : XH} {Q : XO → XH → Prop} {a k c s : Nat} (ha : a + 1 = 32 + k) (hk : Nw h k c s) (o0 : h.1 a = some (.inr (0, [.null, .null]))) (k9 : ∀ h2, BAt h2.1 a (fun _ => 0) (fun _ => 0) → (∀ x, x < a → h2.1 x = h.1 x) → Nw h2 (k + 2) (c + 2) (s + 20) → Q (.inl none) h2) : xP S d 0 0 [(0, .ref a)] [] h Q := by
  refine xs_f 1 r_0_0 rfl ?_
  refine xs_obj 4 r_0_1 rfl rfl rfl ?_
  refine xs_f 5 r_0_4 rfl ?_
  refine xs_f 7 r_0_5 rfl ?_
  refine xs_newA 9 0 10 r_0_7 rfl rfl rfl (by decide) rfl hk (fun h1 o1 y1 n1 => ?_)
  refine xs_putC 12 r_0_9 rfl ((y1 a (by omega)).trans o0) (by rfl) (by rfl) (fun f2 x2 y2 => ?_)
  refine xs_f 13 r_0_12 rfl ?_
  refine xs_f 15 r_0_13 rfl ?_
  refine xs_newA 17 0 10 r_0_15 rfl rfl rfl (by decide) rfl (show Nw (f2, h1.2) _ _ _ from n1) (fun h3 o3 y3 n3 => ?_)
  refine xs_putC 20 r_0_17 rfl ((y3 a (by omega)).trans x2) (by rfl) (by rfl) (fun f4 x4 y4 => ?_)
  refine xs_ret r_0_20 rfl ?_
  exact k9 (f4, h3.2) ⟨x4.trans (by rw [show a + 1 = 32 + k from ha, show a + 2 = 32 + (k + 1) by omega]; rfl), by rw [ha]; exact ⟨_, (y4 _ (by omega)).trans ((y3 _ (by omega)).trans ((y2 _ (by omega)).trans o1)), fun _ _ => rfl⟩, by rw [show a + 2 = 32 + (k + 1) by omega]; exact ⟨_, (y4 _ (by omega)).trans o3, fun _ _ => rfl⟩⟩ (fun x hx => (y4 x (by omega)).trans ((y3 x (by omega)).trans ((y2 x (by omega)).trans (y1 x (by omega))))) n3

theorem n_71 {S : XSc} {d : Nat} {h : XH} {Q : XO → XH → Prop} {a k c s : Nat} (ha : a + 1 = 32 + k) (hk : Nw h k c s) (o0 : h.1 a = some (.inr (6, [.null, .int 0, .int 0, .int 0]))) (k9 : ∀ h2, PAt h2.1 a ((0, (0, (false, (fun _ => 0, fun _ => 0)))) : XPl) → (∀ x, x < a → h2.1 x = h.1 x) → Nw h2 (k + 3) (c + 3) (s + 22) → Q (.inl none) h2) : xP S (d + 1) 71 0 [(0, .ref a)] [] h Q := by
  refine xs_f 1 r_71_0 rfl ?_
  refine xs_obj 4 r_71_1 rfl rfl rfl ?_
  refine xs_f 5 r_71_4 rfl ?_
  refine xs_newO 8 r_71_5 rfl rfl hk (fun h1 o1 y1 n1 => ?_)
  refine xs_f 9 r_71_8 rfl ?_
  refine xs_call (lv2 := [(0, _)]) r_71_9 rfl rfl (by decide) (xcan_2 rfl) rfl (n_0 (by omega) n1 o1 (fun h2 b2 y2 n2 => ?_))
  refine xK_0 rfl ?_
  refine xs_putC 15 r_71_12 rfl ((y2 a (by omega)).trans ((y1 a (by omega)).trans o0)) (by rfl) (by rfl) (fun f3 x3 y3 => ?_)
  refine xs_ret r_71_15 rfl ?_
  exact k9 (f3, h2.2) ⟨x3.trans (by rw [show a + 1 = 32 + k from ha]; rfl), by rw [ha]; exact b2.fr (fun x h1 h2 => y3 x (by omega))⟩ (fun x hx => (y3 x (by omega)).trans ((y2 x (by omega)).trans (y1 x (by omega)))) n2

theorem nl_75 {S : XSc} {d : Nat} {h : XH} {Q : XO → XH → Prop} {a k c s : Nat} (ha : a + 1 = 32 + k) (hk : Nw h k c s) (k9 : ∀ h2, QAt h2.1 a 0 0 0 (fun _ => ((0, (0, (0, (0, 0)))) : XEst)) (fun i => i) → (∀ x, x < a → h2.1 x = h.1 x) → Nw h2 (k + 6) (c + 6) (s + 30) → Q (.inl none) h2) : ∀ (m : Nat) (i : Nat) (g : XH), 5 - i < m → (i ≤ 5) → (g.1 a = some (.inr (7, [.ref (a + 1), .int 0, .int 0, .int 0]))) → ((∃ F : Nat → Option Nat, g.1 (a + 1) = some (.inl (14, (5, .inr (.inr (.inr (.inr F)))))) ∧ ∀ j, j < i → F j = some (a + 2 + j))) → (∀ j, j < i → g.1 (a + 2 + j) = some (.inr (4, eL ((0, (0, (0, (0, 0)))) : XEst)))) → (∀ x, x < a → g.1 x = h.1 x) → (Nw g (k + 1 + i) (c + 1 + i) (s + 5 + 5 * i)) → xP S (d + 1) 75 14 [(0, .ref a), (1, .int (nI i))] [] g Q := by
  intro m
  induction m with
  | zero => intro i g hm; exact absurd hm (Nat.not_lt_zero _)
  | succ m ih =>
    intro i g hm hi o1 hR hE hF hn
    obtain ⟨F, hF0, hFj⟩ := hR
    refine xs_f 15 r_75_14 rfl ?_
    refine xs_f 16 r_75_15 rfl ?_
    refine xs_if 38 19 r_75_16 rfl (fun hc1 => ?_) (fun hc1 => ?_)
    · have hc1 := (nI_leN (nI_k 5) rfl (by omega) (by omega)).mp hc1
      refine xs_ret r_75_38 rfl ?_
      have e9 : i = 5 := by omega
      subst e9
      exact k9 g ⟨o1, by omega, ⟨F, hF0, fun j hj => (hFj j hj)⟩, fun i hi => hi, fun i j _ _ h => h, hE⟩ hF (hn.cv (by omega) (by omega) (by omega))
    · have hc1 := mt (nI_leN (nI_k 5) rfl (by omega) (by omega)).mpr hc1
      refine xs_f 20 r_75_19 rfl ?_
      refine xs_get 23 r_75_20 rfl rfl (by first | assumption | exact xup_s | exact o1 | (refine (xup_n (by omega)).trans ?_; first | assumption | exact xup_s | exact o1) | (refine (xup_n (by omega)).trans ((xup_n (by omega)).trans ?_); first | assumption | exact xup_s | exact o1) | (refine (xup_n (by omega)).trans ((xup_n (by omega)).trans ((xup_n (by omega)).trans ?_)); first | assumption | exact xup_s | exact o1)) (by rfl) ?_
      refine xs_f 24 r_75_23 rfl ?_
      refine xs_newO 27 r_75_24 rfl rfl hn (fun h1 q1 y1 n1 => ?_)
      refine xs_f 28 r_75_27 rfl ?_
      refine xs_call (lv2 := [(0, _)]) r_75_28 rfl rfl (by decide) (xcan_2 rfl) rfl ?_
      refine xs_f 1 r_57_0 rfl ?_
      refine xs_obj 4 r_57_1 rfl rfl rfl ?_
      refine xs_ret r_57_4 rfl ?_
      refine xK_0 rfl ?_
      refine xs_astR0 32 r_75_31 (fun _ _ => rfl) rfl rfl rfl (j := i) rfl ((y1 _ (by omega)).trans hF0) (by omega) (by decide) rfl q1 rfl (fun h2 r2 y2 n2 => ?_)
      refine xs_f 35 (lv2 := [(1, _), (0, _)]) r_75_32 rfl ?_
      refine xs_f 14 r_75_35 rfl ?_
      have ei : 32 + (k + 1 + i) = a + 2 + i := by omega
      rw [ei] at y1 q1 r2
      exact xP_lv [(0, .ref a), (1, .int (nI (i + 1)))] rfl ⟨rfl, (by rw [nI_succ]; rfl), trivial⟩ (ih (i + 1) h2 (by omega) (by omega) ((y2 _ (by omega)).trans ((y1 _ (by omega)).trans o1)) ⟨_, r2, fun j hj => by
        by_cases z : j = i
        · rw [z, va_up_s]
        · rw [va_up_n z]; exact hFj j (by omega)⟩ (fun j hj => by
        by_cases z : j = i
        · rw [z]; exact (y2 _ (by omega)).trans q1
        · exact (y2 _ (by omega)).trans ((y1 _ (by omega)).trans (hE j (by omega)))) (fun x hx => (y2 x (by omega)).trans ((y1 x (by omega)).trans (hF x hx))) ((Nw.mv n2 n1).cv (by omega) (by omega) (by omega)))

theorem n_75 {S : XSc} {d : Nat} {h : XH} {Q : XO → XH → Prop} {a k c s : Nat} (ha : a + 1 = 32 + k) (hk : Nw h k c s) (o0 : h.1 a = some (.inr (7, [.null, .int 0, .int 0, .int 0]))) (k9 : ∀ h2, QAt h2.1 a 0 0 0 (fun _ => ((0, (0, (0, (0, 0)))) : XEst)) (fun i => i) → (∀ x, x < a → h2.1 x = h.1 x) → Nw h2 (k + 6) (c + 6) (s + 30) → Q (.inl none) h2) : xP S (d + 1) 75 0 [(0, .ref a)] [] h Q := by
  refine xs_f 1 r_75_0 rfl ?_
  refine xs_obj 4 r_75_1 rfl rfl rfl ?_
  refine xs_f 5 r_75_4 rfl ?_
  refine xs_f 6 r_75_5 rfl ?_
  refine xs_newQ 9 4 5 r_75_6 rfl rfl rfl (by decide) hk (fun h1 o1 y1 n1 => ?_)
  refine xs_putC 12 r_75_9 rfl ((y1 a (by omega)).trans o0) (by rfl) (by rfl) (fun f2 x2 y2 => ?_)
  refine xs_f 13 r_75_12 rfl ?_
  refine xs_f 14 (lv2 := [(1, _), (0, _)]) r_75_13 rfl ?_
  exact xP_lv [(0, .ref a), (1, .int (nI 0))] rfl ⟨rfl, rfl, trivial⟩ (nl_75 ha hk k9 6 0 (f2, h1.2) (by omega) (by omega) (x2.trans (by rw [ha]; rfl)) ⟨_, (by rw [ha]; exact (y2 _ (by omega)).trans o1), fun j hj => absurd hj (Nat.not_lt_zero _)⟩ (fun j hj => absurd hj (Nat.not_lt_zero _)) (fun x hx => (y2 x (by omega)).trans (y1 x (by omega))) ((show Nw (f2, h1.2) _ _ _ from n1).cv (by omega) (by omega) (by omega)))

theorem nl_10b {S : XSc} {d : Nat} {h : XH} {Q : XO → XH → Prop} {a k c s : Nat} (ha : a + 1 = 32 + k) (hk : Nw h k c s) (k9 : ∀ h2, BdP h2.1 a 0 0 0 0 0 (fun _ => 0) (fun _ => 0) (fun _ => 0) (fun _ => ((0, (0, (false, (fun _ => 0, fun _ => 0)))) : XPl)) (fun _ => ((0, (0, (0, fun _ => ((0, (0, (0, (0, 0)))) : XEst)))) : XQu)) (fun i => i) (fun _ i => i) → (∀ x, x < a → h2.1 x = h.1 x) → Nw h2 (k + 68) (c + 68) (s + 372) → Q (.inl none) h2) : ∀ (m : Nat) (i : Nat) (g : XH), 6 - i < m → (i ≤ 6) → (g.1 a = some (.inr (1, [.ref (a + 1), .ref (a + 2), .ref (a + 3), .ref (a + 6), .int 0, .int 0, .int 0, .int 0, .int 0]))) → ((∃ F : Nat → Option Nat, g.1 (a + 1) = some (.inl (16, (5, .inr (.inr (.inr (.inr F)))))) ∧ ∀ j, j < 5 → F j = some (a + 7 + 4 * j))) → ((∃ F : Nat → Option Nat, g.1 (a + 2) = some (.inl (17, (6, .inr (.inr (.inr (.inr F)))))) ∧ ∀ j, j < i → F j = some (a + 27 + 7 * j))) → (BAt g.1 (a + 3) (fun _ => 0) (fun _ => 0)) → (IA g.1 0 (a + 6) 5 (fun _ => 0)) → (∀ j, j < 5 → PAt g.1 (a + 7 + 4 * j) ((0, (0, (false, (fun _ => 0, fun _ => 0)))) : XPl)) → (∀ x, x < a → g.1 x = h.1 x) → (∀ j, j < i → QAt g.1 (a + 27 + 7 * j) 0 0 0 (fun _ => ((0, (0, (0, (0, 0)))) : XEst)) (fun i => i)) → (Nw g (k + 26 + 7 * i) (c + 26 + 7 * i) (s + 168 + 34 * i)) → xP S (d + 2) 10 67 [(0, .ref a), (1, .int (nI i))] [] g Q := by
  intro m
  induction m with
  | zero => intro i g hm; exact absurd hm (Nat.not_lt_zero _)
  | succ m ih =>
    intro i g hm hi o1 hP hQ hB hT hPs hF hQs hn
    obtain ⟨F, hF0, hFj⟩ := hQ
    obtain ⟨FP, hP0, hPj⟩ := hP
    refine xs_f 68 r_10_67 rfl ?_
    refine xs_f 70 r_10_68 rfl ?_
    refine xs_if 92 73 r_10_70 rfl (fun hc1 => ?_) (fun hc1 => ?_)
    · have hc1 := (nI_leN (nI_k 6) rfl (by omega) (by omega)).mp hc1
      refine xs_ret r_10_92 rfl ?_
      have e9 : i = 6 := by omega
      subst e9
      exact k9 g ⟨o1, ⟨by omega, by omega, by omega⟩, ⟨FP, hP0, hPj⟩, ⟨F, hF0, hFj⟩, hB, hT, hPs, fun i hi => hi, fun i j _ _ h => h, hQs⟩ hF (hn.cv (by omega) (by omega) (by omega))
    · have hc1 := mt (nI_leN (nI_k 6) rfl (by omega) (by omega)).mpr hc1
      refine xs_f 74 r_10_73 rfl ?_
      refine xs_get 77 r_10_74 rfl rfl (by first | assumption | exact xup_s | exact o1 | (refine (xup_n (by omega)).trans ?_; first | assumption | exact xup_s | exact o1) | (refine (xup_n (by omega)).trans ((xup_n (by omega)).trans ?_); first | assumption | exact xup_s | exact o1) | (refine (xup_n (by omega)).trans ((xup_n (by omega)).trans ((xup_n (by omega)).trans ?_)); first | assumption | exact xup_s | exact o1)) (by rfl) ?_
      refine xs_f 78 r_10_77 rfl ?_
      refine xs_newO 81 r_10_78 rfl rfl hn (fun h1 q1 y1 n1 => ?_)
      refine xs_f 82 r_10_81 rfl ?_
      refine xs_call (lv2 := [(0, _)]) r_10_82 rfl rfl (by decide) (xcan_2 rfl) rfl (n_75 (by omega) n1 q1 (fun h2 b2 y2 n2 => ?_))
      refine xK_0 rfl ?_
      refine xs_astR0 86 r_10_85 (fun _ _ => rfl) rfl rfl rfl (j := i) rfl ((y2 _ (by omega)).trans ((y1 _ (by omega)).trans hF0)) (by omega) (by decide) rfl b2.1 rfl (fun h3 r3 y3 n3 => ?_)
      refine xs_f 89 (lv2 := [(1, _), (0, _)]) r_10_86 rfl ?_
      refine xs_f 67 r_10_89 rfl ?_
      have ei : 32 + (k + 26 + 7 * i) = a + 27 + 7 * i := by omega
      rw [ei] at y1 y2 b2 r3
      exact xP_lv [(0, .ref a), (1, .int (nI (i + 1)))] rfl ⟨rfl, (by rw [nI_succ]; rfl), trivial⟩ (ih (i + 1) h3 (by omega) (by omega) ((y3 _ (by omega)).trans ((y2 _ (by omega)).trans ((y1 _ (by omega)).trans o1))) ⟨FP, (y3 _ (by omega)).trans ((y2 _ (by omega)).trans ((y1 _ (by omega)).trans hP0)), hPj⟩ ⟨_, r3, fun j hj => by
        by_cases z : j = i
        · rw [z, va_up_s]
        · rw [va_up_n z]; exact hFj j (by omega)⟩ (hB.fr (fun x h1 h2 => (y3 x (by omega)).trans ((y2 x (by omega)).trans (y1 x (by omega))))) (hT.fr ((y3 _ (by omega)).trans ((y2 _ (by omega)).trans (y1 _ (by omega))))) (fun j hj => (hPs j hj).fr (fun x h1 h2 => (y3 x (by omega)).trans ((y2 x (by omega)).trans (y1 x (by omega))))) (fun x hx => (y3 x (by omega)).trans ((y2 x (by omega)).trans ((y1 x (by omega)).trans (hF x hx)))) (fun j hj => by
        by_cases z : j = i
        · rw [z]; exact b2.fr (fun x h1 h2 => y3 x (by omega))
        · exact (hQs j (by omega)).fr (fun x h1 h2 => (y3 x (by omega)).trans ((y2 x (by omega)).trans (y1 x (by omega))))) ((Nw.mv n3 n2).cv (by omega) (by omega) (by omega)))

theorem nl_10a {S : XSc} {d : Nat} {h : XH} {Q : XO → XH → Prop} {a k c s : Nat} (ha : a + 1 = 32 + k) (hk : Nw h k c s) (k9 : ∀ h2, BdP h2.1 a 0 0 0 0 0 (fun _ => 0) (fun _ => 0) (fun _ => 0) (fun _ => ((0, (0, (false, (fun _ => 0, fun _ => 0)))) : XPl)) (fun _ => ((0, (0, (0, fun _ => ((0, (0, (0, (0, 0)))) : XEst)))) : XQu)) (fun i => i) (fun _ i => i) → (∀ x, x < a → h2.1 x = h.1 x) → Nw h2 (k + 68) (c + 68) (s + 372) → Q (.inl none) h2) : ∀ (m : Nat) (i : Nat) (g : XH), 5 - i < m → (i ≤ 5) → (g.1 a = some (.inr (1, [.ref (a + 1), .ref (a + 2), .ref (a + 3), .ref (a + 6), .int 0, .int 0, .int 0, .int 0, .int 0]))) → ((∃ F : Nat → Option Nat, g.1 (a + 1) = some (.inl (16, (5, .inr (.inr (.inr (.inr F)))))) ∧ ∀ j, j < i → F j = some (a + 7 + 4 * j))) → ((∃ F : Nat → Option Nat, g.1 (a + 2) = some (.inl (17, (6, .inr (.inr (.inr (.inr F)))))) ∧ ∀ j, j < 0 → F j = some (a + 27 + 7 * j))) → (BAt g.1 (a + 3) (fun _ => 0) (fun _ => 0)) → (IA g.1 0 (a + 6) 5 (fun _ => 0)) → (∀ j, j < i → PAt g.1 (a + 7 + 4 * j) ((0, (0, (false, (fun _ => 0, fun _ => 0)))) : XPl)) → (∀ x, x < a → g.1 x = h.1 x) → (Nw g (k + 6 + 4 * i) (c + 6 + 4 * i) (s + 38 + 26 * i)) → xP S (d + 2) 10 41 [(0, .ref a), (1, .int (nI i))] [] g Q := by
  intro m
  induction m with
  | zero => intro i g hm; exact absurd hm (Nat.not_lt_zero _)
  | succ m ih =>
    intro i g hm hi o1 hP hQ hB hT hPs hF hn
    obtain ⟨F, hF0, hFj⟩ := hP
    refine xs_f 42 r_10_41 rfl ?_
    refine xs_f 43 r_10_42 rfl ?_
    refine xs_if 65 46 r_10_43 rfl (fun hc1 => ?_) (fun hc1 => ?_)
    · have hc1 := (nI_leN (nI_k 5) rfl (by omega) (by omega)).mp hc1
      refine xs_f 66 r_10_65 rfl ?_
      refine xs_f 67 (lv2 := [(1, _), (0, _)]) r_10_66 rfl ?_
      have e9 : i = 5 := by omega
      subst e9
      exact xP_lv [(0, .ref a), (1, .int (nI 0))] rfl ⟨rfl, rfl, trivial⟩ (nl_10b ha hk k9 7 0 g (by omega) (by omega) o1 ⟨F, hF0, hFj⟩ hQ hB hT hPs hF (fun j hj => absurd hj (Nat.not_lt_zero _)) (hn.cv (by omega) (by omega) (by omega)))
    · have hc1 := mt (nI_leN (nI_k 5) rfl (by omega) (by omega)).mpr hc1
      refine xs_f 47 r_10_46 rfl ?_
      refine xs_get 50 r_10_47 rfl rfl (by first | assumption | exact xup_s | exact o1 | (refine (xup_n (by omega)).trans ?_; first | assumption | exact xup_s | exact o1) | (refine (xup_n (by omega)).trans ((xup_n (by omega)).trans ?_); first | assumption | exact xup_s | exact o1) | (refine (xup_n (by omega)).trans ((xup_n (by omega)).trans ((xup_n (by omega)).trans ?_)); first | assumption | exact xup_s | exact o1)) (by rfl) ?_
      refine xs_f 51 r_10_50 rfl ?_
      refine xs_newO 54 r_10_51 rfl rfl hn (fun h1 q1 y1 n1 => ?_)
      refine xs_f 55 r_10_54 rfl ?_
      refine xs_call (lv2 := [(0, _)]) r_10_55 rfl rfl (by decide) (xcan_2 rfl) rfl (n_71 (by omega) n1 q1 (fun h2 b2 y2 n2 => ?_))
      refine xK_0 rfl ?_
      refine xs_astR0 59 r_10_58 (fun _ _ => rfl) rfl rfl rfl (j := i) rfl ((y2 _ (by omega)).trans ((y1 _ (by omega)).trans hF0)) (by omega) (by decide) rfl b2.1 rfl (fun h3 r3 y3 n3 => ?_)
      refine xs_f 62 (lv2 := [(1, _), (0, _)]) r_10_59 rfl ?_
      refine xs_f 41 r_10_62 rfl ?_
      have ei : 32 + (k + 6 + 4 * i) = a + 7 + 4 * i := by omega
      rw [ei] at y1 y2 b2 r3
      obtain ⟨FQ, hQ0, hQj⟩ := hQ
      exact xP_lv [(0, .ref a), (1, .int (nI (i + 1)))] rfl ⟨rfl, (by rw [nI_succ]; rfl), trivial⟩ (ih (i + 1) h3 (by omega) (by omega) ((y3 _ (by omega)).trans ((y2 _ (by omega)).trans ((y1 _ (by omega)).trans o1))) ⟨_, r3, fun j hj => by
        by_cases z : j = i
        · rw [z, va_up_s]
        · rw [va_up_n z]; exact hFj j (by omega)⟩ ⟨FQ, (y3 _ (by omega)).trans ((y2 _ (by omega)).trans ((y1 _ (by omega)).trans hQ0)), hQj⟩ (hB.fr (fun x h1 h2 => (y3 x (by omega)).trans ((y2 x (by omega)).trans (y1 x (by omega))))) (hT.fr ((y3 _ (by omega)).trans ((y2 _ (by omega)).trans (y1 _ (by omega))))) (fun j hj => by
        by_cases z : j = i
        · rw [z]; exact b2.fr (fun x h1 h2 => y3 x (by omega))
        · exact (hPs j (by omega)).fr (fun x h1 h2 => (y3 x (by omega)).trans ((y2 x (by omega)).trans (y1 x (by omega))))) (fun x hx => (y3 x (by omega)).trans ((y2 x (by omega)).trans ((y1 x (by omega)).trans (hF x hx)))) ((Nw.mv n3 n2).cv (by omega) (by omega) (by omega)))

theorem n_10 {S : XSc} {d : Nat} {h : XH} {Q : XO → XH → Prop} {a k c s : Nat} (ha : a + 1 = 32 + k) (hk : Nw h k c s) (o0 : h.1 a = some (.inr (1, [.null, .null, .null, .null, .int 0, .int 0, .int 0, .int 0, .int 0]))) (k9 : ∀ h2, BdP h2.1 a 0 0 0 0 0 (fun _ => 0) (fun _ => 0) (fun _ => 0) (fun _ => ((0, (0, (false, (fun _ => 0, fun _ => 0)))) : XPl)) (fun _ => ((0, (0, (0, fun _ => ((0, (0, (0, (0, 0)))) : XEst)))) : XQu)) (fun i => i) (fun _ i => i) → (∀ x, x < a → h2.1 x = h.1 x) → Nw h2 (k + 68) (c + 68) (s + 372) → Q (.inl none) h2) : xP S (d + 2) 10 0 [(0, .ref a)] [] h Q := by
  refine xs_f 1 r_10_0 rfl ?_
  refine xs_obj 4 r_10_1 rfl rfl rfl ?_
  refine xs_f 5 r_10_4 rfl ?_
  refine xs_f 6 r_10_5 rfl ?_
  refine xs_newQ 9 6 5 r_10_6 rfl rfl rfl (by decide) hk (fun h1 o1 y1 n1 => ?_)
  refine xs_putC 12 r_10_9 rfl ((y1 a (by omega)).trans o0) (by rfl) (by rfl) (fun f2 x2 y2 => ?_)
  refine xs_f 13 r_10_12 rfl ?_
  refine xs_f 15 r_10_13 rfl ?_
  refine xs_newQ 18 7 6 r_10_15 rfl rfl rfl (by decide) (show Nw (f2, h1.2) _ _ _ from n1) (fun h3 o3 y3 n3 => ?_)
  refine xs_putC 21 r_10_18 rfl ((y3 a (by omega)).trans x2) (by rfl) (by rfl) (fun f4 x4 y4 => ?_)
  refine xs_f 22 r_10_21 rfl ?_
  refine xs_newO 25 r_10_22 rfl rfl (show Nw (f4, h3.2) _ _ _ from n3) (fun h5 o5 y5 n5 => ?_)
  refine xs_f 26 r_10_25 rfl ?_
  refine xs_call (lv2 := [(0, _)]) r_10_26 rfl rfl (by decide) (xcan_2 rfl) rfl (n_0 (by omega) n5 o5 (fun h6 b6 y6 n6 => ?_))
  refine xK_0 rfl ?_
  refine xs_putC 32 r_10_29 rfl ((y6 a (by omega)).trans ((y5 a (by omega)).trans x4)) (by rfl) (by rfl) (fun f7 x7 y7 => ?_)
  refine xs_f 33 r_10_32 rfl ?_
  refine xs_f 34 r_10_33 rfl ?_
  refine xs_newA 36 0 5 r_10_34 rfl rfl rfl (by decide) rfl (show Nw (f7, h6.2) _ _ _ from n6) (fun h8 o8 y8 n8 => ?_)
  refine xs_putC 39 r_10_36 rfl ((y8 a (by omega)).trans x7) (by rfl) (by rfl) (fun f9 x9 y9 => ?_)
  refine xs_f 40 r_10_39 rfl ?_
  refine xs_f 41 (lv2 := [(1, _), (0, _)]) r_10_40 rfl ?_
  have r0 := (y9 (32 + k) (by omega)).trans ((y8 _ (by omega)).trans ((y7 _ (by omega)).trans ((y6 _ (by omega)).trans ((y5 _ (by omega)).trans ((y4 _ (by omega)).trans ((y3 _ (by omega)).trans ((y2 _ (by omega)).trans o1)))))))
  rw [← ha] at r0
  have r1 := (y9 (32 + (k + 1)) (by omega)).trans ((y8 _ (by omega)).trans ((y7 _ (by omega)).trans ((y6 _ (by omega)).trans ((y5 _ (by omega)).trans ((y4 _ (by omega)).trans o3)))))
  rw [show 32 + (k + 1) = a + 2 by omega] at r1
  exact xP_lv [(0, .ref a), (1, .int (nI 0))] rfl ⟨rfl, rfl, trivial⟩ (nl_10a ha hk k9 6 0 (f9, h8.2) (by omega) (by omega) (x9.trans (by rw [show a + 1 = 32 + k from ha, show a + 2 = 32 + (k + 1) by omega, show a + 3 = 32 + (k + 1 + 1) by omega, show a + 6 = 32 + (k + 1 + 1 + 1 + 2) by omega]; rfl)) ⟨_, r0, fun j hj => absurd hj (Nat.not_lt_zero _)⟩ ⟨_, r1, fun j hj => absurd hj (Nat.not_lt_zero _)⟩ (by rw [show a + 3 = 32 + (k + 1 + 1) by omega]; exact b6.fr (fun x h1 h2 => (y9 x (by omega)).trans ((y8 x (by omega)).trans (y7 x (by omega))))) (by rw [show a + 6 = 32 + (k + 1 + 1 + 1 + 2) by omega]; exact ⟨_, (y9 _ (by omega)).trans o8, fun _ _ => rfl⟩) (fun j hj => absurd hj (Nat.not_lt_zero _)) (fun x hx => (y9 x (by omega)).trans ((y8 x (by omega)).trans ((y7 x (by omega)).trans ((y6 x (by omega)).trans ((y5 x (by omega)).trans ((y4 x (by omega)).trans ((y3 x (by omega)).trans ((y2 x (by omega)).trans (y1 x (by omega)))))))))) ((show Nw (f9, h8.2) _ _ _ from n8).cv (by omega) (by omega) (by omega)))

theorem nl_64 {S : XSc} {d : Nat} {h : XH} {Q : XO → XH → Prop} {a k c s : Nat} (ha : a + 1 = 32 + k) (hk : Nw h k c s) (k9 : ∀ h2, h2.1 a = some (.inr (5, [.ref (a + 1), .int 0, .int 0])) → RA h2.1 11 (a + 1) 9 (fun j => a + 2 + 69 * j) → (∀ j, j < 9 → (BdP h2.1 (a + 2 + 69 * j) 0 0 0 0 0 (fun _ => 0) (fun _ => 0) (fun _ => 0) (fun _ => ((0, (0, (false, (fun _ => 0, fun _ => 0)))) : XPl)) (fun _ => ((0, (0, (0, fun _ => ((0, (0, (0, (0, 0)))) : XEst)))) : XQu)) (fun i => i) (fun _ i => i))) → (∀ x, x < a → h2.1 x = h.1 x) → Nw h2 (k + 622) (c + 622) (s + 3438) → Q (.inl none) h2) : ∀ (m : Nat) (i : Nat) (g : XH), 9 - i < m → (i ≤ 9) → (g.1 a = some (.inr (5, [.ref (a + 1), .int 0, .int 0]))) → ((∃ F : Nat → Option Nat, g.1 (a + 1) = some (.inl (11, (9, .inr (.inr (.inr (.inr F)))))) ∧ ∀ j, j < i → F j = some (a + 2 + 69 * j))) → (∀ j, j < i → (BdP g.1 (a + 2 + 69 * j) 0 0 0 0 0 (fun _ => 0) (fun _ => 0) (fun _ => 0) (fun _ => ((0, (0, (false, (fun _ => 0, fun _ => 0)))) : XPl)) (fun _ => ((0, (0, (0, fun _ => ((0, (0, (0, (0, 0)))) : XEst)))) : XQu)) (fun i => i) (fun _ i => i))) → (∀ x, x < a → g.1 x = h.1 x) → (Nw g (k + 1 + 69 * i) (c + 1 + 69 * i) (s + 9 + 381 * i)) → xP S (d + 3) 64 15 [(0, .ref a), (1, .int (nI i))] [] g Q := by
  intro m
  induction m with
  | zero => intro i g hm; exact absurd hm (Nat.not_lt_zero _)
  | succ m ih =>
    intro i g hm hi o1 hR hB hF hn
    obtain ⟨F, hF0, hFj⟩ := hR
    refine xs_f 16 r_64_15 rfl ?_
    refine xs_f 18 r_64_16 rfl ?_
    refine xs_if 40 21 r_64_18 rfl (fun hc1 => ?_) (fun hc1 => ?_)
    · have hc1 := (nI_leN (nI_k 9) rfl (by omega) (by omega)).mp hc1
      refine xs_ret r_64_40 rfl ?_
      have e9 : i = 9 := by omega
      subst e9
      exact k9 g o1 ⟨F, hF0, hFj⟩ hB hF (hn.cv (by omega) (by omega) (by omega))
    · have hc1 := mt (nI_leN (nI_k 9) rfl (by omega) (by omega)).mpr hc1
      refine xs_f 22 r_64_21 rfl ?_
      refine xs_get 25 r_64_22 rfl rfl (by first | assumption | exact xup_s | exact o1 | (refine (xup_n (by omega)).trans ?_; first | assumption | exact xup_s | exact o1) | (refine (xup_n (by omega)).trans ((xup_n (by omega)).trans ?_); first | assumption | exact xup_s | exact o1) | (refine (xup_n (by omega)).trans ((xup_n (by omega)).trans ((xup_n (by omega)).trans ?_)); first | assumption | exact xup_s | exact o1)) (by rfl) ?_
      refine xs_f 26 r_64_25 rfl ?_
      refine xs_newO 29 r_64_26 rfl rfl hn (fun h1 q1 y1 n1 => ?_)
      refine xs_f 30 r_64_29 rfl ?_
      refine xs_call (lv2 := [(0, _)]) r_64_30 rfl rfl (by decide) (xcan_2 rfl) rfl (n_10 (by omega) n1 q1 (fun h2 b2 y2 n2 => ?_))
      refine xK_0 rfl ?_
      refine xs_astR0 34 r_64_33 (fun _ _ => rfl) rfl rfl rfl (j := i) rfl ((y2 _ (by omega)).trans ((y1 _ (by omega)).trans hF0)) (by omega) (by decide) rfl b2.1 rfl (fun h3 r3 y3 n3 => ?_)
      refine xs_f 37 (lv2 := [(1, _), (0, _)]) r_64_34 rfl ?_
      refine xs_f 15 r_64_37 rfl ?_
      have ei : 32 + (k + 1 + 69 * i) = a + 2 + 69 * i := by omega
      rw [ei] at y1 y2 b2 r3
      exact xP_lv [(0, .ref a), (1, .int (nI (i + 1)))] rfl ⟨rfl, (by rw [nI_succ]; rfl), trivial⟩ (ih (i + 1) h3 (by omega) (by omega) ((y3 _ (by omega)).trans ((y2 _ (by omega)).trans ((y1 _ (by omega)).trans o1))) ⟨_, r3, fun j hj => by
        by_cases z : j = i
        · rw [z, va_up_s]
        · rw [va_up_n z]; exact hFj j (by omega)⟩ (fun j hj => by
        by_cases z : j = i
        · rw [z]; exact b2.fr (fun x h1 h2 => y3 x (by omega))
        · exact (hB j (by omega)).fr (fun x h1 h2 => (y3 x (by omega)).trans ((y2 x (by omega)).trans (y1 x (by omega))))) (fun x hx => (y3 x (by omega)).trans ((y2 x (by omega)).trans ((y1 x (by omega)).trans (hF x hx)))) ((Nw.mv n3 n2).cv (by omega) (by omega) (by omega)))

theorem n_64 {S : XSc} {d : Nat} {h : XH} {Q : XO → XH → Prop} {a k c s : Nat} (ha : a + 1 = 32 + k) (hk : Nw h k c s) (o0 : h.1 a = some (.inr (5, [.null, .int 0, .int 0]))) (k9 : ∀ h2, h2.1 a = some (.inr (5, [.ref (a + 1), .int 0, .int 0])) → RA h2.1 11 (a + 1) 9 (fun j => a + 2 + 69 * j) → (∀ j, j < 9 → (BdP h2.1 (a + 2 + 69 * j) 0 0 0 0 0 (fun _ => 0) (fun _ => 0) (fun _ => 0) (fun _ => ((0, (0, (false, (fun _ => 0, fun _ => 0)))) : XPl)) (fun _ => ((0, (0, (0, fun _ => ((0, (0, (0, (0, 0)))) : XEst)))) : XQu)) (fun i => i) (fun _ i => i))) → (∀ x, x < a → h2.1 x = h.1 x) → Nw h2 (k + 622) (c + 622) (s + 3438) → Q (.inl none) h2) : xP S (d + 3) 64 0 [(0, .ref a)] [] h Q := by
  refine xs_f 1 r_64_0 rfl ?_
  refine xs_obj 4 r_64_1 rfl rfl rfl ?_
  refine xs_f 5 r_64_4 rfl ?_
  refine xs_f 7 r_64_5 rfl ?_
  refine xs_newQ 10 1 9 r_64_7 rfl rfl rfl (by decide) hk (fun h1 o1 y1 n1 => ?_)
  refine xs_putC 13 r_64_10 rfl ((y1 a (by omega)).trans o0) (by rfl) (by rfl) (fun f2 x2 y2 => ?_)
  refine xs_f 14 r_64_13 rfl ?_
  refine xs_f 15 (lv2 := [(1, _), (0, _)]) r_64_14 rfl ?_
  exact xP_lv [(0, .ref a), (1, .int (nI 0))] rfl ⟨rfl, rfl, trivial⟩ (nl_64 ha hk k9 10 0 (f2, h1.2) (by omega) (by omega) (x2.trans (by rw [ha]; rfl)) ⟨_, (by rw [ha]; exact (y2 _ (by omega)).trans o1), fun j hj => absurd hj (Nat.not_lt_zero _)⟩ (fun j hj => absurd hj (Nat.not_lt_zero _)) (fun x hx => (y2 x (by omega)).trans (y1 x (by omega))) ((show Nw (f2, h1.2) _ _ _ from n1).cv (by omega) (by omega) (by omega)))

theorem n_48 {S : XSc} {d : Nat} {h : XH} {Q : XO → XH → Prop} {a k c s : Nat} (ha : a + 1 = 32 + k) (hk : Nw h k c s) (o0 : h.1 a = some (.inr (3, [.null, .null, .null]))) (k9 : ∀ h2, CvP h2.1 a (fun _ _ => 0) (fun _ => 0) (fun _ => 0) → (∀ x, x < a → h2.1 x = h.1 x) → Nw h2 (k + 9) (c + 9) (s + 112) → Q (.inl none) h2) : xP S d 48 0 [(0, .ref a)] [] h Q := by
  refine xs_f 1 r_48_0 rfl ?_
  refine xs_obj 4 r_48_1 rfl rfl rfl ?_
  refine xs_f 5 r_48_4 rfl ?_
  refine xs_f 7 r_48_5 rfl ?_
  refine xs_f 9 r_48_7 rfl ?_
  refine xs_newM 13 6 16 r_48_9 rfl rfl rfl (by decide) (by decide) hk (fun h1 o1 l1 y1 n1 => ?_)
  refine xs_putC 16 r_48_13 rfl ((y1 a (by omega)).trans o0) (by rfl) (by rfl) (fun f2 x2 y2 => ?_)
  refine xs_f 17 r_48_16 rfl ?_
  refine xs_f 18 r_48_17 rfl ?_
  refine xs_newA 20 0 5 r_48_18 rfl rfl rfl (by decide) rfl (show Nw (f2, h1.2) _ _ _ from n1) (fun h3 o3 y3 n3 => ?_)
  refine xs_putC 23 r_48_20 rfl ((y3 a (by omega)).trans x2) (by rfl) (by rfl) (fun f4 x4 y4 => ?_)
  refine xs_f 24 r_48_23 rfl ?_
  refine xs_f 25 r_48_24 rfl ?_
  refine xs_newA 27 0 5 r_48_25 rfl rfl rfl (by decide) rfl (show Nw (f4, h3.2) _ _ _ from n3) (fun h5 o5 y5 n5 => ?_)
  refine xs_putC 30 r_48_27 rfl ((y5 a (by omega)).trans x4) (by rfl) (by rfl) (fun f6 x6 y6 => ?_)
  refine xs_ret r_48_30 rfl ?_
  refine k9 (f6, h5.2) ⟨x6.trans (by rw [show a + 1 = 32 + k from ha, show a + 8 = 32 + (k + 1 + 6) by omega, show a + 9 = 32 + (k + 1 + 6 + 1) by omega]; rfl), ⟨_, by rw [ha]; exact (y6 _ (by omega)).trans ((y5 _ (by omega)).trans ((y4 _ (by omega)).trans ((y3 _ (by omega)).trans ((y2 _ (by omega)).trans o1)))), fun j hj => (if_pos hj).trans (congrArg some (show 32 + k + 1 + j = a + 2 + j by omega))⟩, fun j hj => ⟨_, by rw [show a + 2 + j = 32 + k + 1 + j by omega]; exact (y6 _ (by omega)).trans ((y5 _ (by omega)).trans ((y4 _ (by omega)).trans ((y3 _ (by omega)).trans ((y2 _ (by omega)).trans (l1 j hj))))), fun _ _ => rfl⟩, ⟨_, by rw [show a + 8 = 32 + (k + 1 + 6) by omega]; exact (y6 _ (by omega)).trans ((y5 _ (by omega)).trans ((y4 _ (by omega)).trans o3)), fun _ _ => rfl⟩, ⟨_, by rw [show a + 9 = 32 + (k + 1 + 6 + 1) by omega]; exact (y6 _ (by omega)).trans o5, fun _ _ => rfl⟩⟩ (fun x hx => (y6 x (by omega)).trans ((y5 x (by omega)).trans ((y4 x (by omega)).trans ((y3 x (by omega)).trans ((y2 x (by omega)).trans (y1 x (by omega))))))) ((show Nw (f6, h5.2) _ _ _ from n5).cv (by omega) (by omega) (by omega))

theorem n_35 {S : XSc} {d : Nat} {h : XH} {Q : XO → XH → Prop} {a k c s : Nat} (ha : a + 1 = 32 + k) (hk : Nw h k c s) (o0 : h.1 a = some (.inr (2, [.null, .null, .int 0, .int 0, .int 0]))) (k9 : ∀ h2, TxP h2.1 a 0 0 0 (fun _ => 0) (fun _ => 0) → (∀ x, x < a → h2.1 x = h.1 x) → Nw h2 (k + 2) (c + 2) (s + 66) → Q (.inl none) h2) : xP S d 35 0 [(0, .ref a)] [] h Q := by
  refine xs_f 1 r_35_0 rfl ?_
  refine xs_obj 4 r_35_1 rfl rfl rfl ?_
  refine xs_f 5 r_35_4 rfl ?_
  refine xs_f 7 r_35_5 rfl ?_
  refine xs_newA 9 3 60 r_35_7 rfl rfl rfl (by decide) rfl hk (fun h1 o1 y1 n1 => ?_)
  refine xs_putC 12 r_35_9 rfl ((y1 a (by omega)).trans o0) (by rfl) (by rfl) (fun f2 x2 y2 => ?_)
  refine xs_f 13 r_35_12 rfl ?_
  refine xs_f 15 r_35_13 rfl ?_
  refine xs_newA 17 0 6 r_35_15 rfl rfl rfl (by decide) rfl (show Nw (f2, h1.2) _ _ _ from n1) (fun h3 o3 y3 n3 => ?_)
  refine xs_putC 20 r_35_17 rfl ((y3 a (by omega)).trans x2) (by rfl) (by rfl) (fun f4 x4 y4 => ?_)
  refine xs_ret r_35_20 rfl ?_
  exact k9 (f4, h3.2) ⟨x4.trans (by rw [show a + 1 = 32 + k from ha, show a + 2 = 32 + (k + 1) by omega]; rfl), by rw [ha]; exact ⟨_, (y4 _ (by omega)).trans ((y3 _ (by omega)).trans ((y2 _ (by omega)).trans o1)), fun _ _ => rfl⟩, by rw [show a + 2 = 32 + (k + 1) by omega]; exact ⟨_, (y4 _ (by omega)).trans o3, fun _ _ => rfl⟩, by omega, by omega, by omega⟩ (fun x hx => (y4 x (by omega)).trans ((y3 x (by omega)).trans ((y2 x (by omega)).trans (y1 x (by omega))))) n3

theorem n_292 {S : XSc} {d : Nat} {h : XH} {Q : XO → XH → Prop} {a k c s : Nat} (ha : a + 1 = 32 + k) (hk : Nw h k c s) (o0 : h.1 a = some (.inr (10, [.null, .int 0, .int 0, .int 0]))) (k9 : ∀ h2, h2.1 a = some (.inr (10, [.ref (a + 1), .int 0, .int 0, .int 0])) → IA h2.1 4 (a + 1) 16 (fun _ => 0) → (∀ x, x < a → h2.1 x = h.1 x) → Nw h2 (k + 1) (c + 1) (s + 16) → Q (.inl none) h2) : xP S (d + 1) 292 0 [(0, .ref a)] [] h Q := by
  refine xs_f 1 r_292_0 rfl ?_
  refine xs_f 3 r_292_1 rfl ?_
  refine xs_call (lv2 := [(0, _), (1, _)]) r_292_3 rfl rfl (by decide) (xcan_2 rfl) rfl ?_
  refine xs_f 1 r_298_0 rfl ?_
  refine xs_obj 4 r_298_1 rfl rfl rfl ?_
  refine xs_gst 7 r_298_4 rfl ?_
  refine xs_f 10 r_298_7 rfl ?_
  refine xs_f 11 r_298_10 rfl ?_
  refine xs_f 12 r_298_11 rfl ?_
  refine xs_newA 14 4 16 r_298_12 rfl rfl rfl (by decide) rfl hk (fun h1 o1 y1 n1 => ?_)
  refine xs_putC 17 r_298_14 rfl ((y1 a (by omega)).trans o0) (by rfl) (by rfl) (fun f2 x2 y2 => ?_)
  refine xs_f 18 r_298_17 rfl ?_
  refine xs_f 19 r_298_18 rfl ?_
  refine xs_putC 22 r_298_19 rfl x2 (by decide +kernel) (by rfl) (fun f3 x3 y3 => ?_)
  refine xs_f 38 r_298_22 rfl ?_
  refine xs_ret r_298_38 rfl ?_
  refine xK_0 rfl ?_
  refine xs_ret r_292_6 rfl ?_
  exact k9 (f3, h1.2) (x3.trans (by rw [ha]; rfl)) (by rw [ha]; exact ⟨_, (y3 _ (by omega)).trans ((y2 _ (by omega)).trans o1), fun _ _ => rfl⟩) (fun x hx => (y3 x (by omega)).trans ((y2 x (by omega)).trans (y1 x (by omega)))) n1

