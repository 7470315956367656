/-! the law: the third contest -/
theorem yK_int {S : XSc} {d mid pc kk : Nat} {lv : XLv} {rest : List Value} {Q : XO → XH → Prop} {h : XH} {v w : Int32} (e : v = w) (k : yK S d mid pc lv rest kk Q (.inl (some (.int w))) h) : yK S d mid pc lv rest kk Q (.inl (some (.int v))) h := by rw [e]; exact k
theorem yP_top {S : XSc} {d mid pc : Nat} {lv : XLv} {st : List Value} {Q : XO → XH → Prop} {h : XH} {v w : Int32} (e : v = w) (k : yP S d mid pc lv (.int w :: st) h Q) : yP S d mid pc lv (.int v :: st) h Q := by rw [e]; exact k
theorem AtC.fg {h : XH} {b B : Nat} {F : Nat → Prop} {G H Sv : Nat → Int32} {ch : Nat} {sv : Bool} {ea fa : Int32} {tn : Nat} {Bu : Nat → Int32} (A : AtC h b F (Ca B G H Sv ch sv ea fa tn Bu)) : ∃ H ch, AtC h b F (Ca B G H Sv ch sv ea fa tn Bu) := ⟨H, ch, A⟩
def kOf (c : Int32) : Nat := c.toBitVec.toNat &&& 63
theorem kOf_lt (c : Int32) : kOf c < 64 := by
  have : c.toBitVec.toNat &&& 63 ≤ 63 := Nat.and_le_right
  unfold kOf
  omega
theorem zA_of (c : Int32) : 100 + (c &&& 63) = zA (kOf c) := by
  have e : c &&& 63 = nI (kOf c) := and_nI c (m := 63) (by decide)
  rw [e]
  exact nI_add 100 (kOf c)
theorem yK_lit {S : XSc} {d mid pc kk : Nat} {lv : XLv} {rest : List Value} {Q : XO → XH → Prop} {h : XH} {v w : Value} (e : v = w) (k : yK S d mid pc lv rest kk Q (.inl (some w)) h) : yK S d mid pc lv rest kk Q (.inl (some v)) h := by rw [e]; exact k
section U1
variable {S : XSc} {d b zb : Nat} {h : XH} {F Fy : Nat → Prop} {Q : XO → XH → Prop} {Gx Hx Sx : Nat → Int32} {cx Bx : Nat} {Ex Fx : Int32} {Ux : Nat → Int32} {nw ox : Int32} {kk : Nat} {H : Nat → Int32} {ch : Nat} {Bu : Nat → Int32} {ea fa : Int32}
theorem lw_u1  (hL : S.1 ≤ 260) (X : AtC h b F (Ca Bx Gx Hx Sx cx true Ex Fx 0 Ux)) (L : Lo h) (C : h.2.2.1 ≤ 5500 ∧ h.2.2.2 ≤ 34000) (k : ∀ zb kk h2 F2 Fy2 H2 ch2 Bu2, kk < 64 → AtC h2 zb F2 (Ca 10 (zN) H2 zN ch2 false (-1) (-1) 0 Bu2) → AtC h2 b Fy2 (Ca Bx Gx Hx Sx cx true Ex Fx 0 Ux) → (∀ c, F2 c → Fy2 c → False) → Lo h2 → (h2.2.2.1 ≤ 6300 ∧ h2.2.2.2 ≤ 39000) → yP S (d + 10) 286 475 [(0, .ref 12), (1, .ref b), (3, .int ox), (4, .int nw), (6, .int (zA kk)), (7, .ref zb)] [] h2 Q) : yP S (d + 10) 286 371 [(0, .ref 12), (1, .ref b), (3, .int ox), (4, .int nw)] [] h Q := by
  obtain ⟨gt, p0⟩ := X.cell (fun c z => z.o)
  obtain ⟨nx, hnx, -⟩ := X.lt
  refine ys_f 372 r_286_371 rfl ?_
  refine ys_f 374 r_286_372 rfl ?_
  refine ys_call (lv2 := [(0, _), (1, _)]) r_286_374 rfl rfl (by decide) (xcan_1 rfl) rfl (yP_lv [(0, .ref 12), (1, .int (nI 13))] rfl ⟨rfl, (congrArg (fun z => some (Value.int z)) (nI_k 13)), trivial⟩ (yP_up (show d ≤ d + 9 by omega) (la_160 (j := 13) hL (by omega) ?_)))
  refine yK_v rfl ?_
  refine ys_f 379 (lv2 := [(5, _), (0, _), (1, _), (3, _), (4, _)]) r_286_377 rfl ?_
  refine ys_f 381 r_286_379 rfl ?_
  refine ys_f 383 r_286_381 rfl ?_
  refine ys_f 385 r_286_383 rfl ?_
  refine ys_f 386 r_286_385 rfl ?_
  refine ys_f 387 r_286_386 rfl ?_
  refine yP_top (zA_of _) ?_
  refine ys_f 389 (lv2 := [(6, _), (5, _), (0, _), (1, _), (3, _), (4, _)]) r_286_387 rfl ?_
  refine ys_newO 392 r_286_389 rfl rfl hnx (fun h7 o7 y7 e7 => ?_)
  refine ys_f 393 r_286_392 rfl ?_
  refine ys_call (lv2 := [(0, _)]) r_286_393 rfl rfl (by decide) (xcan_2 rfl) rfl (yP_up (show d + 7 ≤ d + 9 by omega) (la_83 L hnx o7 y7 e7 (fun h8 F8 A8 M8 => ?_)))
  have X8 := X.keep M8 (fun c q => q.elim) (fun c q => q.elim)
  obtain ⟨X9, D9⟩ := X8
  obtain ⟨gs8, o8⟩ := A8.cell (fun c z => z.o)
  obtain ⟨gt8, p8⟩ := X9.cell (fun c z => z.o)
  have C8 := MvC.cost M8 C.1 C.2
  have L8 := L.mv M8 (fun c q => q.elim)
  refine yK_0 rfl ?_
  refine ys_f 398 (lv2 := [(7, _), (6, _), (5, _), (0, _), (1, _), (3, _), (4, _)]) r_286_396 rfl ?_
  refine ys_f 400 r_286_398 rfl ?_
  refine ys_call (lv2 := [(0, _)]) r_286_400 rfl rfl (by decide) (xcan_0 rfl rfl (by first | assumption) (by rfl)) rfl (yP_up (show d + 7 ≤ d + 9 by omega) (qa_124 A8  (fun h43 F43 A43 M43 => ?_) ))
  have C43 := MvC.cost M43 C8.1 C8.2
  have L43 := L8.mv M43 A8.ge
  obtain ⟨B43, D43⟩ := X9.keep M43 D9 A8.ge
  obtain ⟨gt43, p43⟩ := B43.cell (fun c z => z.o)
  obtain ⟨gs43, o43⟩ := A43.cell (fun c z => z.o)
  refine yK_v rfl ?_
  refine ys_f 406 r_286_403 rfl ?_
  refine ys_f 408 r_286_406 rfl ?_
  refine ys_call (lv2 := [(0, _)]) r_286_408 rfl rfl (by decide) (xcan_0 rfl rfl (by first | assumption) (by rfl)) rfl (yP_up (show d + 7 ≤ d + 9 by omega) (qa_95 A43  (fun h44 F44 A44 M44 => ?_) ))
  have C44 := MvC.cost M44 C43.1 C43.2
  have L44 := L43.mv M44 A43.ge
  obtain ⟨B44, D44⟩ := B43.keep M44 D43 A43.ge
  obtain ⟨gt44, p44⟩ := B44.cell (fun c z => z.o)
  obtain ⟨gs44, o44⟩ := A44.cell (fun c z => z.o)
  refine yK_int ((rfl : zN 1 = 0)) ?_
  refine yK_v rfl ?_
  refine ys_f 414 r_286_411 rfl ?_
  refine ys_f 416 r_286_414 rfl ?_
  refine ys_call (lv2 := [(0, _)]) r_286_416 rfl rfl (by decide) (xcan_0 rfl rfl (by first | assumption) (by rfl)) rfl (yP_up (show d + 7 ≤ d + 9 by omega) (qa_93 A44  (fun h45 F45 A45 M45 => ?_) ))
  have C45 := MvC.cost M45 C44.1 C44.2
  have L45 := L44.mv M45 A44.ge
  obtain ⟨B45, D45⟩ := B44.keep M45 D44 A44.ge
  obtain ⟨gt45, p45⟩ := B45.cell (fun c z => z.o)
  obtain ⟨gs45, o45⟩ := A45.cell (fun c z => z.o)
  refine yK_int ((rfl : zN 3 = 0)) ?_
  refine yK_v rfl ?_
  refine ys_f 422 r_286_419 rfl ?_
  refine ys_f 424 r_286_422 rfl ?_
  refine ys_f 426 r_286_424 rfl ?_
  refine ys_call (lv2 := [(0, _), (1, _)]) r_286_426 rfl rfl (by decide) (xcan_0 rfl rfl (by first | assumption) (by rfl)) rfl (yP_up (show d + 7 ≤ d + 9 by omega) (qa_120 A45 (by decide +kernel) (fun h46 F46 A46 M46 => ?_) ))
  have C46 := MvC.cost M46 C45.1 C45.2
  have L46 := L45.mv M46 A45.ge
  obtain ⟨B46, D46⟩ := B45.keep M46 D45 A45.ge
  obtain ⟨gt46, p46⟩ := B46.cell (fun c z => z.o)
  obtain ⟨gs46, o46⟩ := A46.cell (fun c z => z.o)
  refine yK_int ((show _ = (0 : Int32) by decide +kernel)) ?_
  refine yK_v rfl ?_
  refine ys_f 432 r_286_429 rfl ?_
  refine ys_f 434 r_286_432 rfl ?_
  refine ys_f 435 r_286_434 rfl ?_
  refine ys_f 436 r_286_435 rfl ?_
  refine ys_call (lv2 := [(0, _), (1, _), (2, _)]) r_286_436 rfl rfl (by decide) (xcan_3 rfl rfl) rfl (yP_up (show d + 8 ≤ d + 9 by omega) (la_163_2 A46 (by omega) (fun z => absurd z (show settF (noG zN) 5 ≠ 3 by decide +kernel)) (fun z47 h47 F47 A47 M47 => ?_) (fun z => absurd z (show settF (noG zN) 5 ≠ 0 by decide +kernel))))
  have C47 := MvC.cost M47 C46.1 C46.2
  have L47 := L46.mv M47 A46.ge
  obtain ⟨B47, D47⟩ := B46.keep M47 D46 A46.ge
  obtain ⟨gt47, p47⟩ := B47.cell (fun c z => z.o)
  obtain ⟨gs47, o47⟩ := A47.cell (fun c z => z.o)
  refine yK_v rfl ?_
  refine ys_f 442 r_286_439 rfl ?_
  refine ys_f 445 r_286_442 rfl ?_
  refine ys_f 447 r_286_445 rfl ?_
  refine ys_f 448 r_286_447 rfl ?_
  refine ys_f 449 r_286_448 rfl ?_
  refine ys_call (lv2 := [(0, _), (1, _), (2, _)]) r_286_449 rfl rfl (by decide) (xcan_3 rfl rfl) rfl (yP_up (show d + 8 ≤ d + 9 by omega) (la_163_3 A47 (by omega) (fun z48 h48 F48 A48 M48 => ?_) (fun z => absurd z (show postF (noG zN) ≠ 0 by decide +kernel))))
  have C48 := MvC.cost M48 C47.1 C47.2
  have L48 := L47.mv M48 A47.ge
  obtain ⟨B48, D48⟩ := B47.keep M48 D47 A47.ge
  obtain ⟨gt48, p48⟩ := B48.cell (fun c z => z.o)
  obtain ⟨gs48, o48⟩ := A48.cell (fun c z => z.o)
  refine yK_v rfl ?_
  refine ys_f 455 r_286_452 rfl ?_
  refine ys_f 458 r_286_455 rfl ?_
  refine ys_f 460 r_286_458 rfl ?_
  refine ys_f 461 r_286_460 rfl ?_
  refine ys_f 462 r_286_461 rfl ?_
  refine ys_f 463 r_286_462 rfl ?_
  refine ys_f 464 r_286_463 rfl ?_
  refine ys_f 465 r_286_464 rfl ?_
  refine ys_f 466 r_286_465 rfl ?_
  refine ys_call (lv2 := [(0, _), (1, _), (2, _), (3, _), (4, _), (5, _), (6, _)]) r_286_466 rfl rfl (by decide) (xcan_3 rfl rfl) rfl (yP_up (show d + 8 ≤ d + 9 by omega) (la_164 A48 (by omega) (fun z49 h49 F49 A49 M49 => ?_) (fun z => absurd ((show betF (npG zN) (noG zN) (gP zN) (gQ zN (mnG zN)) 0 0 1 2 3 4 = 1 by decide +kernel).symm.trans z) (by decide)) (fun z => absurd ((show betF (npG zN) (noG zN) (gP zN) (gQ zN (mnG zN)) 0 0 1 2 3 4 = 1 by decide +kernel).symm.trans z) (by decide)) (fun z => absurd ((show betF (npG zN) (noG zN) (gP zN) (gQ zN (mnG zN)) 0 0 1 2 3 4 = 1 by decide +kernel).symm.trans z) (by decide)) (fun z => absurd ((show betF (npG zN) (noG zN) (gP zN) (gQ zN (mnG zN)) 0 0 1 2 3 4 = 1 by decide +kernel).symm.trans z) (by decide)) (fun z => absurd ((show betF (npG zN) (noG zN) (gP zN) (gQ zN (mnG zN)) 0 0 1 2 3 4 = 1 by decide +kernel).symm.trans z) (by decide))))
  have C49 := MvC.cost M49 C48.1 C48.2
  have L49 := L48.mv M49 A48.ge
  obtain ⟨B49, D49⟩ := B48.keep M49 D48 A48.ge
  obtain ⟨gt49, p49⟩ := B49.cell (fun c z => z.o)
  obtain ⟨gs49, o49⟩ := A49.cell (fun c z => z.o)
  refine yK_v rfl ?_
  refine ys_f 470 r_286_469 rfl ?_
  refine ys_f 475 r_286_470 rfl ?_
  exact yP_lv [(0, .ref 12), (1, .ref b), (3, .int ox), (4, .int nw), (6, .int (zA (kOf (atV S 13)))), (7, .ref (72 + nx))] rfl ⟨rfl, rfl, rfl, rfl, rfl, rfl, trivial⟩ (k _ _ _ _ _ _ _ _ (kOf_lt _) (A49.imp (fun c hc => hc.up (by omega) (by omega))) B49 D49 L49 ⟨by omega, by omega⟩)

end U1
