/-! the third contest: answers, after the first question is settled -/
theorem zc_91_0 : ∀ k, k < 64 → R_pl (npG (z7T (zA k))) 0 (fun i => ((gP (z7T (zA k))) i).1) = (0, 90) := by decide +kernel
theorem zc_91_1 : ∀ k, k < 64 → R_pl (npG (z7T (zA k))) 1 (fun i => ((gP (z7T (zA k))) i).1) = (0, 102) := by decide +kernel
theorem zc_91_2 : ∀ k, k < 64 → R_pl (npG (z7T (zA k))) 2 (fun i => ((gP (z7T (zA k))) i).1) = (0, 128) := by decide +kernel
theorem zc_93 : ∀ k, k < 64 → (z7T (zA k)) 3 = -20 := by decide +kernel
theorem zc_115_0 : ∀ k, k < 64 → R_pl (npG (z7T (zA k))) 0 (fun i => ((gP (z7T (zA k))) i).2.1) = (0, 216) := by decide +kernel
theorem zc_115_1 : ∀ k, k < 64 → R_pl (npG (z7T (zA k))) 1 (fun i => ((gP (z7T (zA k))) i).2.1) = (0, 80) := by decide +kernel
theorem zc_115_2 : ∀ k, k < 64 → R_pl (npG (z7T (zA k))) 2 (fun i => ((gP (z7T (zA k))) i).2.1) = (0, 10) := by decide +kernel
theorem zc_119_0 : ∀ k, k < 64 → R_by (npG (z7T (zA k))) (gP (z7T (zA k))) 0 = (0, 2) := by decide +kernel
theorem zc_119_2 : ∀ k, k < 64 → R_by (npG (z7T (zA k))) (gP (z7T (zA k))) 2 = (0, 0) := by decide +kernel
theorem zc_117_0 : ∀ k, k < 64 → R_pl (npG (z7T (zA k))) 0 (fun i => errP ((gP (z7T (zA k))) i)) = (0, 5) := by decide +kernel
theorem zc_117_1 : ∀ k, k < 64 → R_pl (npG (z7T (zA k))) 1 (fun i => errP ((gP (z7T (zA k))) i)) = (0, 1) := by decide +kernel
theorem zc_117_2 : ∀ k, k < 64 → R_pl (npG (z7T (zA k))) 2 (fun i => errP ((gP (z7T (zA k))) i)) = (0, 8) := by decide +kernel
theorem zc_118 : ∀ k, k < 64 → R_opt (bst (gP (z7T (zA k))) (npG (z7T (zA k)))) = (0, 1) := by decide +kernel
theorem zc_112 : ∀ k, k < 64 → R_rec (scG (z7T (zA k))) (gT (z7T (zA k)) (scG (z7T (zA k)))) 0 = (0, zA k + 42) := by decide +kernel
theorem zb_7 : ∀ k, k < 64 → (betF (npG (z7T (zA k))) (noG (z7T (zA k))) (gP (z7T (zA k))) (gQ (z7T (zA k)) (mnG (z7T (zA k)))) 2 1 0 999 1 20 = 0 ∧ pla (gQ (z7T (zA k)) (mnG (z7T (zA k)))) (noG (z7T (zA k))) 1 = 0 ∧ mnG (z7T (zA k)) 0 = 0) ∧ (gP (z7T (zA k)) 2).1 - 20 = 108 := by decide +kernel
theorem zb_8 : ∀ k, k < 64 → (betF (npG (gBet (z7T (zA k)) 2 0 0 0 999 1 20)) (noG (gBet (z7T (zA k)) 2 0 0 0 999 1 20)) (gP (gBet (z7T (zA k)) 2 0 0 0 999 1 20)) (gQ (gBet (z7T (zA k)) 2 0 0 0 999 1 20) (mnG (gBet (z7T (zA k)) 2 0 0 0 999 1 20))) 0 1 0 0 9 1 = 0 ∧ pla (gQ (gBet (z7T (zA k)) 2 0 0 0 999 1 20) (mnG (gBet (z7T (zA k)) 2 0 0 0 999 1 20))) (noG (gBet (z7T (zA k)) 2 0 0 0 999 1 20)) 1 = 0 ∧ mnG (gBet (z7T (zA k)) 2 0 0 0 999 1 20) 0 = 1) ∧ (gP (gBet (z7T (zA k)) 2 0 0 0 999 1 20) 0).1 - 1 = 89 := by decide +kernel
theorem zr_9_0 : ∀ k, k < 8 → ∀ i, i < 288 → z9T (zA (0 + k)) i = gBet (gBet (z7T (zA (0 + k))) 2 0 0 0 999 1 20) 0 0 1 0 0 9 1 i := by decide +kernel
theorem zr_9_1 : ∀ k, k < 8 → ∀ i, i < 288 → z9T (zA (8 + k)) i = gBet (gBet (z7T (zA (8 + k))) 2 0 0 0 999 1 20) 0 0 1 0 0 9 1 i := by decide +kernel
theorem zr_9_2 : ∀ k, k < 8 → ∀ i, i < 288 → z9T (zA (16 + k)) i = gBet (gBet (z7T (zA (16 + k))) 2 0 0 0 999 1 20) 0 0 1 0 0 9 1 i := by decide +kernel
theorem zr_9_3 : ∀ k, k < 8 → ∀ i, i < 288 → z9T (zA (24 + k)) i = gBet (gBet (z7T (zA (24 + k))) 2 0 0 0 999 1 20) 0 0 1 0 0 9 1 i := by decide +kernel
theorem zr_9_4 : ∀ k, k < 8 → ∀ i, i < 288 → z9T (zA (32 + k)) i = gBet (gBet (z7T (zA (32 + k))) 2 0 0 0 999 1 20) 0 0 1 0 0 9 1 i := by decide +kernel
theorem zr_9_5 : ∀ k, k < 8 → ∀ i, i < 288 → z9T (zA (40 + k)) i = gBet (gBet (z7T (zA (40 + k))) 2 0 0 0 999 1 20) 0 0 1 0 0 9 1 i := by decide +kernel
theorem zr_9_6 : ∀ k, k < 8 → ∀ i, i < 288 → z9T (zA (48 + k)) i = gBet (gBet (z7T (zA (48 + k))) 2 0 0 0 999 1 20) 0 0 1 0 0 9 1 i := by decide +kernel
theorem zr_9_7 : ∀ k, k < 8 → ∀ i, i < 288 → z9T (zA (56 + k)) i = gBet (gBet (z7T (zA (56 + k))) 2 0 0 0 999 1 20) 0 0 1 0 0 9 1 i := by decide +kernel
theorem zr_9 : ∀ k, k < 64 → ∀ i, i < 288 → z9T (zA k) i = gBet (gBet (z7T (zA k)) 2 0 0 0 999 1 20) 0 0 1 0 0 9 1 i := fun k hk => by
  have e : k = 8 * (k / 8) + k % 8 := by omega
  have h8 : k % 8 < 8 := by omega
  have hq : k / 8 < 8 := by omega
  generalize k / 8 = q at *
  generalize k % 8 = r at *
  subst e
  match q, hq with
  | 0, _ => exact zr_9_0 r h8
  | 1, _ => exact zr_9_1 r h8
  | 2, _ => exact zr_9_2 r h8
  | 3, _ => exact zr_9_3 r h8
  | 4, _ => exact zr_9_4 r h8
  | 5, _ => exact zr_9_5 r h8
  | 6, _ => exact zr_9_6 r h8
  | 7, _ => exact zr_9_7 r h8
theorem zl_9 : ∀ k, k < 64 → leavF (npG (z9T (zA k))) (gP (z9T (zA k))) 2 = 0 ∧ nI (cntB (fun j => hasQ 2 (gQ (z9T (zA k)) (mnG (z9T (zA k))) j)) (noG (z9T (zA k)))) = 1 := by decide +kernel
theorem zn_9 : ∀ k, k < 64 → (noG (z9T (zA k)) = 1 ∧ mnG (z9T (zA k)) 0 = 2) := by decide +kernel
theorem zr_10_0 : ∀ k, k < 8 → ∀ i, i < 288 → z10T (zA (0 + k)) i = xw (wd1 (z9T (zA (0 + k))) 2 0 2) 17 1 i := by decide +kernel
theorem zr_10_1 : ∀ k, k < 8 → ∀ i, i < 288 → z10T (zA (8 + k)) i = xw (wd1 (z9T (zA (8 + k))) 2 0 2) 17 1 i := by decide +kernel
theorem zr_10_2 : ∀ k, k < 8 → ∀ i, i < 288 → z10T (zA (16 + k)) i = xw (wd1 (z9T (zA (16 + k))) 2 0 2) 17 1 i := by decide +kernel
theorem zr_10_3 : ∀ k, k < 8 → ∀ i, i < 288 → z10T (zA (24 + k)) i = xw (wd1 (z9T (zA (24 + k))) 2 0 2) 17 1 i := by decide +kernel
theorem zr_10_4 : ∀ k, k < 8 → ∀ i, i < 288 → z10T (zA (32 + k)) i = xw (wd1 (z9T (zA (32 + k))) 2 0 2) 17 1 i := by decide +kernel
theorem zr_10_5 : ∀ k, k < 8 → ∀ i, i < 288 → z10T (zA (40 + k)) i = xw (wd1 (z9T (zA (40 + k))) 2 0 2) 17 1 i := by decide +kernel
theorem zr_10_6 : ∀ k, k < 8 → ∀ i, i < 288 → z10T (zA (48 + k)) i = xw (wd1 (z9T (zA (48 + k))) 2 0 2) 17 1 i := by decide +kernel
theorem zr_10_7 : ∀ k, k < 8 → ∀ i, i < 288 → z10T (zA (56 + k)) i = xw (wd1 (z9T (zA (56 + k))) 2 0 2) 17 1 i := by decide +kernel
theorem zr_10 : ∀ k, k < 64 → ∀ i, i < 288 → z10T (zA k) i = xw (wd1 (z9T (zA k)) 2 0 2) 17 1 i := fun k hk => by
  have e : k = 8 * (k / 8) + k % 8 := by omega
  have h8 : k % 8 < 8 := by omega
  have hq : k / 8 < 8 := by omega
  generalize k / 8 = q at *
  generalize k % 8 = r at *
  subst e
  match q, hq with
  | 0, _ => exact zr_10_0 r h8
  | 1, _ => exact zr_10_1 r h8
  | 2, _ => exact zr_10_2 r h8
  | 3, _ => exact zr_10_3 r h8
  | 4, _ => exact zr_10_4 r h8
  | 5, _ => exact zr_10_5 r h8
  | 6, _ => exact zr_10_6 r h8
  | 7, _ => exact zr_10_7 r h8
theorem zd_91 : ∀ k, k < 64 → R_pl (npG (z10T (zA k))) 2 (fun i => ((gP (z10T (zA k))) i).1) = (0, 128) := by decide +kernel
theorem zd_100 : ∀ k, k < 64 → R_est (gQ (z10T (zA k)) (mnG (z10T (zA k)))) (noG (z10T (zA k))) 1 0 = (0, 0) := by decide +kernel
theorem zb_9 : ∀ k, k < 64 → betF (npG (z10T (zA k))) (noG (z10T (zA k))) (gP (z10T (zA k))) (gQ (z10T (zA k)) (mnG (z10T (zA k)))) 2 1 0 1 1 1 = 4 := by decide +kernel
theorem zl_10 : ∀ k, k < 64 → leavF (npG (z10T (zA k))) (gP (z10T (zA k))) 2 = 5 := by decide +kernel
theorem zs_10 : ∀ k, k < 64 → settF (noG (z10T (zA k))) 7 = 0 ∧ nI (hitN (gQ (z10T (zA k)) (mnG (z10T (zA k))) 0).2.2.2 7 (gQ (z10T (zA k)) (mnG (z10T (zA k))) 0).2.2.1) = 0 := by decide +kernel
theorem zn_10 : ∀ k, k < 64 → (noG (z10T (zA k)) = 1 ∧ mnG (z10T (zA k)) 0 = 1 ∧ scG (z10T (zA k)) = 1) := by decide +kernel
theorem zr_11_0 : ∀ k, k < 8 → ∀ i, i < 288 → z11T (zA (0 + k)) i = gSet (z10T (zA (0 + k))) 1 1 1 7 i := by decide +kernel
theorem zr_11_1 : ∀ k, k < 8 → ∀ i, i < 288 → z11T (zA (8 + k)) i = gSet (z10T (zA (8 + k))) 1 1 1 7 i := by decide +kernel
theorem zr_11_2 : ∀ k, k < 8 → ∀ i, i < 288 → z11T (zA (16 + k)) i = gSet (z10T (zA (16 + k))) 1 1 1 7 i := by decide +kernel
theorem zr_11_3 : ∀ k, k < 8 → ∀ i, i < 288 → z11T (zA (24 + k)) i = gSet (z10T (zA (24 + k))) 1 1 1 7 i := by decide +kernel
theorem zr_11_4 : ∀ k, k < 8 → ∀ i, i < 288 → z11T (zA (32 + k)) i = gSet (z10T (zA (32 + k))) 1 1 1 7 i := by decide +kernel
theorem zr_11_5 : ∀ k, k < 8 → ∀ i, i < 288 → z11T (zA (40 + k)) i = gSet (z10T (zA (40 + k))) 1 1 1 7 i := by decide +kernel
theorem zr_11_6 : ∀ k, k < 8 → ∀ i, i < 288 → z11T (zA (48 + k)) i = gSet (z10T (zA (48 + k))) 1 1 1 7 i := by decide +kernel
theorem zr_11_7 : ∀ k, k < 8 → ∀ i, i < 288 → z11T (zA (56 + k)) i = gSet (z10T (zA (56 + k))) 1 1 1 7 i := by decide +kernel
theorem zr_11 : ∀ k, k < 64 → ∀ i, i < 288 → z11T (zA k) i = gSet (z10T (zA k)) 1 1 1 7 i := fun k hk => by
  have e : k = 8 * (k / 8) + k % 8 := by omega
  have h8 : k % 8 < 8 := by omega
  have hq : k / 8 < 8 := by omega
  generalize k / 8 = q at *
  generalize k % 8 = r at *
  subst e
  match q, hq with
  | 0, _ => exact zr_11_0 r h8
  | 1, _ => exact zr_11_1 r h8
  | 2, _ => exact zr_11_2 r h8
  | 3, _ => exact zr_11_3 r h8
  | 4, _ => exact zr_11_4 r h8
  | 5, _ => exact zr_11_5 r h8
  | 6, _ => exact zr_11_6 r h8
  | 7, _ => exact zr_11_7 r h8
theorem ze_115 : ∀ k, k < 64 → R_pl (npG (z11T (zA k))) 0 (fun i => ((gP (z11T (zA k))) i).2.1) = (0, 356) := by decide +kernel
theorem ze_93 : ∀ k, k < 64 → (z11T (zA k)) 3 = -19 := by decide +kernel
theorem ze_121 : ∀ k, k < 64 → R_bin (fun j => xsum (fun i => (z11T (zA k)) (30 + 9 * i + j - 1)) (npG (z11T (zA k)))) 9 = (0, 2) := by decide +kernel
theorem ze_122 : ∀ k, k < 64 → R_bin (fun j => xsum (fun i => (z11T (zA k)) (75 + 9 * i + j - 1)) (npG (z11T (zA k)))) 9 = (0, 1) := by decide +kernel
theorem za_11 : ∀ k, k < 64 → askF (noG (z11T (zA k))) 3 = 0 ∧ (z11T (zA k)) 2 = 2 := by decide +kernel
theorem zf_112 : ∀ k, k < 64 → R_rec (scG (gAsk (z11T (zA k)) (noG (z11T (zA k))) 3)) (gT (gAsk (z11T (zA k)) (noG (z11T (zA k))) 3) (scG (gAsk (z11T (zA k)) (noG (z11T (zA k))) 3))) 1 = (0, zA k + 42) := by decide +kernel
