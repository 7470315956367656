/-! the third contest: rows and answers -/
def z9T (a : Int32) : Nat → Int32 := tb [(0, 3), (1, 1), (2, 2), (3, (-20)), (4, 1), (5, a + 42), (10, 89), (11, 102), (12, 108), (20, 216), (21, 80), (22, 10), (34, 1), (47, 1), (49, 1), (92, 1), (94, 1), (120, 1), (121, 1), (126, 1), (127, 1), (132, 2), (138, 2), (140, 999), (141, 1), (142, 20), (146, 9), (147, 1)]
def z10T (a : Int32) : Nat → Int32 := tb [(0, 3), (1, 1), (2, 2), (3, (-20)), (4, 1), (5, a + 42), (10, 89), (11, 102), (12, 128), (17, 1), (20, 216), (21, 80), (22, 10), (34, 1), (47, 1), (49, 1), (92, 1), (94, 1), (120, 1), (121, 1), (126, 1), (127, 1), (132, 1), (141, 9), (142, 1)]
def z11T (a : Int32) : Nat → Int32 := tb [(0, 3), (2, 2), (3, (-19)), (4, 2), (5, a + 42), (6, 7), (10, 89), (11, 102), (12, 128), (17, 1), (20, 356), (21, 80), (22, 10), (34, 1), (38, 1), (47, 1), (49, 1), (92, 1), (94, 1), (120, 1), (121, 1), (126, 1), (127, 1), (132, 1), (141, 9), (142, 1)]
def z2F (a : Int32) : Nat → Int32 := gBet z1T 0 0 0 a (a + 20) 5 10
def z3F (a : Int32) : Nat → Int32 := gBet (z2F a) 1 0 1 (a + 10) (a + 50) 9 20
def z4F (a : Int32) : Nat → Int32 := gBet (z3F a) 2 0 2 (a + 40) (a + 45) 2 7
theorem zb_1k : ∀ k, k < 64 → True := fun _ _ => trivial
theorem zb_1 : ∀ k, k < 64 → (betF (npG (z1T)) (noG (z1T)) (gP (z1T)) (gQ (z1T) (mnG (z1T))) 0 0 (zA k) (zA k + 20) 5 10 = 0 ∧ pla (gQ (z1T) (mnG (z1T))) (noG (z1T)) 0 = 0 ∧ mnG (z1T) 0 = 0) ∧ (gP (z1T) 0).1 - 10 = 90 := by decide +kernel
theorem zb_2 : ∀ k, k < 64 → (betF (npG (z2F (zA k))) (noG (z2F (zA k))) (gP (z2F (zA k))) (gQ (z2F (zA k)) (mnG (z2F (zA k)))) 1 0 (zA k + 10) (zA k + 50) 9 20 = 0 ∧ pla (gQ (z2F (zA k)) (mnG (z2F (zA k)))) (noG (z2F (zA k))) 0 = 0 ∧ mnG (z2F (zA k)) 0 = 1) ∧ (gP (z2F (zA k)) 1).1 - 20 = 80 := by decide +kernel
theorem zb_3 : ∀ k, k < 64 → (betF (npG (z3F (zA k))) (noG (z3F (zA k))) (gP (z3F (zA k))) (gQ (z3F (zA k)) (mnG (z3F (zA k)))) 2 0 (zA k + 40) (zA k + 45) 2 7 = 0 ∧ pla (gQ (z3F (zA k)) (mnG (z3F (zA k)))) (noG (z3F (zA k))) 0 = 0 ∧ mnG (z3F (zA k)) 0 = 2) ∧ (gP (z3F (zA k)) 2).1 - 7 = 93 := by decide +kernel
theorem zb_4 : ∀ k, k < 64 → betF (npG (z4T (zA k))) (noG (z4T (zA k))) (gP (z4T (zA k))) (gQ (z4T (zA k)) (mnG (z4T (zA k)))) 2 0 1 2 1 1 = 5 := by decide +kernel
theorem zb_5 : ∀ k, k < 64 → betF (npG (z4T (zA k))) (noG (z4T (zA k))) (gP (z4T (zA k))) (gQ (z4T (zA k)) (mnG (z4T (zA k)))) 0 2 1 2 1 1 = 2 := by decide +kernel
theorem zb_6 : ∀ k, k < 64 → betF (npG (z4T (zA k))) (noG (z4T (zA k))) (gP (z4T (zA k))) (gQ (z4T (zA k)) (mnG (z4T (zA k)))) 0 1 5 4 1 1 = 3 := by decide +kernel
theorem zq_94 : ∀ k, k < 64 → xsum (fun i => stkQ (gQ (z4T (zA k)) (mnG (z4T (zA k))) i)) (noG (z4T (zA k))) = 37 := by decide +kernel
theorem zq_107 : ∀ k, k < 64 → R_cov (gQ (z4T (zA k)) (mnG (z4T (zA k)))) (noG (z4T (zA k))) 0 (zA k + 20) = (0, 2) ∧ R_cov (gQ (z4T (zA k)) (mnG (z4T (zA k)))) (noG (z4T (zA k))) 0 (zA k + 21) = (0, 1) := by decide +kernel
theorem zq_106_0 : ∀ k, k < 64 → R_fld (npG (z4T (zA k))) (gQ (z4T (zA k)) (mnG (z4T (zA k)))) (noG (z4T (zA k))) 0 0 xprize = (0, 10) := by decide +kernel
theorem zq_106_1 : ∀ k, k < 64 → R_fld (npG (z4T (zA k))) (gQ (z4T (zA k)) (mnG (z4T (zA k)))) (noG (z4T (zA k))) 1 0 xprize = (0, 2) := by decide +kernel
theorem zq_106_2 : ∀ k, k < 64 → R_fld (npG (z4T (zA k))) (gQ (z4T (zA k)) (mnG (z4T (zA k)))) (noG (z4T (zA k))) 2 0 xprize = (0, 28) := by decide +kernel
theorem zn_4 : ∀ k, k < 64 → (noG (z4T (zA k)) = 2 ∧ mnG (z4T (zA k)) 0 = 3 ∧ scG (z4T (zA k)) = 0) := by decide +kernel
theorem zn_5 : ∀ k, k < 64 → noG (z5T (zA k)) = 2 := by decide +kernel
theorem zp_4 : ∀ k, k < 64 → postF (noG (z4T (zA k))) = 0 ∧ (rot (gQ (z4T (zA k)) (mnG (z4T (zA k)))) 0 (noG (z4T (zA k)) - 1) 0).1 = 1 := by decide +kernel
theorem zr_5_0 : ∀ k, k < 8 → ∀ i, i < 288 → z5T (zA (0 + k)) i = gPst (z4T (zA (0 + k))) 2 i := by decide +kernel
theorem zr_5_1 : ∀ k, k < 8 → ∀ i, i < 288 → z5T (zA (8 + k)) i = gPst (z4T (zA (8 + k))) 2 i := by decide +kernel
theorem zr_5_2 : ∀ k, k < 8 → ∀ i, i < 288 → z5T (zA (16 + k)) i = gPst (z4T (zA (16 + k))) 2 i := by decide +kernel
theorem zr_5_3 : ∀ k, k < 8 → ∀ i, i < 288 → z5T (zA (24 + k)) i = gPst (z4T (zA (24 + k))) 2 i := by decide +kernel
theorem zr_5_4 : ∀ k, k < 8 → ∀ i, i < 288 → z5T (zA (32 + k)) i = gPst (z4T (zA (32 + k))) 2 i := by decide +kernel
theorem zr_5_5 : ∀ k, k < 8 → ∀ i, i < 288 → z5T (zA (40 + k)) i = gPst (z4T (zA (40 + k))) 2 i := by decide +kernel
theorem zr_5_6 : ∀ k, k < 8 → ∀ i, i < 288 → z5T (zA (48 + k)) i = gPst (z4T (zA (48 + k))) 2 i := by decide +kernel
theorem zr_5_7 : ∀ k, k < 8 → ∀ i, i < 288 → z5T (zA (56 + k)) i = gPst (z4T (zA (56 + k))) 2 i := by decide +kernel
theorem zr_5 : ∀ k, k < 64 → ∀ i, i < 288 → z5T (zA k) i = gPst (z4T (zA k)) 2 i := fun k hk => by
  have e : k = 8 * (k / 8) + k % 8 := by omega
  have h8 : k % 8 < 8 := by omega
  have hq : k / 8 < 8 := by omega
  generalize k / 8 = q at *
  generalize k % 8 = r at *
  subst e
  match q, hq with
  | 0, _ => exact zr_5_0 r h8
  | 1, _ => exact zr_5_1 r h8
  | 2, _ => exact zr_5_2 r h8
  | 3, _ => exact zr_5_3 r h8
  | 4, _ => exact zr_5_4 r h8
  | 5, _ => exact zr_5_5 r h8
  | 6, _ => exact zr_5_6 r h8
  | 7, _ => exact zr_5_7 r h8
theorem zq_97 : ∀ k, k < 64 → (if pla (gQ (z5T (zA k)) (mnG (z5T (zA k)))) (noG (z5T (zA k))) 0 < noG (z5T (zA k)) then ((0, nI (pla (gQ (z5T (zA k)) (mnG (z5T (zA k)))) (noG (z5T (zA k))) 0)) : XR) else (1, 0)) = (0, 1) := by decide +kernel
theorem zp_5 : ∀ k, k < 64 → postF (noG (z5T (zA k))) = 0 ∧ (rot (gQ (z5T (zA k)) (mnG (z5T (zA k)))) 0 (noG (z5T (zA k)) - 1) 0).1 = 0 := by decide +kernel
theorem zr_6_0 : ∀ k, k < 8 → ∀ i, i < 288 → z4T (zA (0 + k)) i = gPst (z5T (zA (0 + k))) 2 i := by decide +kernel
theorem zr_6_1 : ∀ k, k < 8 → ∀ i, i < 288 → z4T (zA (8 + k)) i = gPst (z5T (zA (8 + k))) 2 i := by decide +kernel
theorem zr_6_2 : ∀ k, k < 8 → ∀ i, i < 288 → z4T (zA (16 + k)) i = gPst (z5T (zA (16 + k))) 2 i := by decide +kernel
theorem zr_6_3 : ∀ k, k < 8 → ∀ i, i < 288 → z4T (zA (24 + k)) i = gPst (z5T (zA (24 + k))) 2 i := by decide +kernel
theorem zr_6_4 : ∀ k, k < 8 → ∀ i, i < 288 → z4T (zA (32 + k)) i = gPst (z5T (zA (32 + k))) 2 i := by decide +kernel
theorem zr_6_5 : ∀ k, k < 8 → ∀ i, i < 288 → z4T (zA (40 + k)) i = gPst (z5T (zA (40 + k))) 2 i := by decide +kernel
theorem zr_6_6 : ∀ k, k < 8 → ∀ i, i < 288 → z4T (zA (48 + k)) i = gPst (z5T (zA (48 + k))) 2 i := by decide +kernel
theorem zr_6_7 : ∀ k, k < 8 → ∀ i, i < 288 → z4T (zA (56 + k)) i = gPst (z5T (zA (56 + k))) 2 i := by decide +kernel
theorem zr_6 : ∀ k, k < 64 → ∀ i, i < 288 → z4T (zA k) i = gPst (z5T (zA k)) 2 i := fun k hk => by
  have e : k = 8 * (k / 8) + k % 8 := by omega
  have h8 : k % 8 < 8 := by omega
  have hq : k / 8 < 8 := by omega
  generalize k / 8 = q at *
  generalize k % 8 = r at *
  subst e
  match q, hq with
  | 0, _ => exact zr_6_0 r h8
  | 1, _ => exact zr_6_1 r h8
  | 2, _ => exact zr_6_2 r h8
  | 3, _ => exact zr_6_3 r h8
  | 4, _ => exact zr_6_4 r h8
  | 5, _ => exact zr_6_5 r h8
  | 6, _ => exact zr_6_6 r h8
  | 7, _ => exact zr_6_7 r h8
theorem zs_6 : ∀ k, k < 64 → settF (noG (z4T (zA k))) (zA k + 42) = 0 ∧ nI (hitN (gQ (z4T (zA k)) (mnG (z4T (zA k))) 0).2.2.2 (zA k + 42) (gQ (z4T (zA k)) (mnG (z4T (zA k))) 0).2.2.1) = 2 := by decide +kernel
theorem zr_7_0 : ∀ k, k < 8 → ∀ i, i < 288 → z7T (zA (0 + k)) i = gSet (z4T (zA (0 + k))) 2 3 0 ((zA (0 + k)) + 42) i := by decide +kernel
theorem zr_7_1 : ∀ k, k < 8 → ∀ i, i < 288 → z7T (zA (8 + k)) i = gSet (z4T (zA (8 + k))) 2 3 0 ((zA (8 + k)) + 42) i := by decide +kernel
theorem zr_7_2 : ∀ k, k < 8 → ∀ i, i < 288 → z7T (zA (16 + k)) i = gSet (z4T (zA (16 + k))) 2 3 0 ((zA (16 + k)) + 42) i := by decide +kernel
theorem zr_7_3 : ∀ k, k < 8 → ∀ i, i < 288 → z7T (zA (24 + k)) i = gSet (z4T (zA (24 + k))) 2 3 0 ((zA (24 + k)) + 42) i := by decide +kernel
theorem zr_7_4 : ∀ k, k < 8 → ∀ i, i < 288 → z7T (zA (32 + k)) i = gSet (z4T (zA (32 + k))) 2 3 0 ((zA (32 + k)) + 42) i := by decide +kernel
theorem zr_7_5 : ∀ k, k < 8 → ∀ i, i < 288 → z7T (zA (40 + k)) i = gSet (z4T (zA (40 + k))) 2 3 0 ((zA (40 + k)) + 42) i := by decide +kernel
theorem zr_7_6 : ∀ k, k < 8 → ∀ i, i < 288 → z7T (zA (48 + k)) i = gSet (z4T (zA (48 + k))) 2 3 0 ((zA (48 + k)) + 42) i := by decide +kernel
theorem zr_7_7 : ∀ k, k < 8 → ∀ i, i < 288 → z7T (zA (56 + k)) i = gSet (z4T (zA (56 + k))) 2 3 0 ((zA (56 + k)) + 42) i := by decide +kernel
theorem zr_7 : ∀ k, k < 64 → ∀ i, i < 288 → z7T (zA k) i = gSet (z4T (zA k)) 2 3 0 ((zA k) + 42) i := fun k hk => by
  have e : k = 8 * (k / 8) + k % 8 := by omega
  have h8 : k % 8 < 8 := by omega
  have hq : k / 8 < 8 := by omega
  generalize k / 8 = q at *
  generalize k % 8 = r at *
  subst e
  match q, hq with
  | 0, _ => exact zr_7_0 r h8
  | 1, _ => exact zr_7_1 r h8
  | 2, _ => exact zr_7_2 r h8
  | 3, _ => exact zr_7_3 r h8
  | 4, _ => exact zr_7_4 r h8
  | 5, _ => exact zr_7_5 r h8
  | 6, _ => exact zr_7_6 r h8
  | 7, _ => exact zr_7_7 r h8
