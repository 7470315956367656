/-! the law: the third contest, its estimates -/
theorem t20_all (Bu : Nat → Int32) (c : Nat) (nu : Nat → Int32) : (ctC (putB Bu (xfB 20) 34) 34 60 1 0 c nu).1 = some 5 ∧ (exC (putB Bu (xfB 20) 34) 34 5 0 0 (ctC (putB Bu (xfB 20) 34) 34 60 1 0 c nu).2.2.1 (ctC (putB Bu (xfB 20) 34) 34 60 1 0 c nu).2.2.2 zN).1 = none ∧ (exC (putB Bu (xfB 20) 34) 34 5 0 0 (ctC (putB Bu (xfB 20) 34) 34 60 1 0 c nu).2.2.1 (ctC (putB Bu (xfB 20) 34) 34 60 1 0 c nu).2.2.2 zN).2.1 = (exC (cl (xfB 20)) 34 5 0 0 0 zN zN).2.1 := by
  have e := exC_cg (putB_cl (Bu := Bu) (L := xfB 20) (n := 34)) 5 0 0 (ctC (putB Bu (xfB 20) 34) 34 60 1 0 c nu).2.2.1 0 (ctC (putB Bu (xfB 20) 34) 34 60 1 0 c nu).2.2.2 zN zN
  exact ⟨(ctC_cg putB_cl 60 1 0 c 0 nu zN).1.trans z1_c, e.1.trans z1_e, e.2⟩
section UV
variable {S : XSc} {d b zb : Nat} {h : XH} {F Fy : Nat → Prop} {Q : XO → XH → Prop} {Gx Hx Sx : Nat → Int32} {cx Bx : Nat} {Ex Fx : Int32} {Ux : Nat → Int32} {nw ox : Int32} {kk : Nat} {H : Nat → Int32} {ch : Nat} {Bu : Nat → Int32} {ea fa : Int32}
theorem lw_u2  (hk : kk < 64) (A : AtC h zb F (Ca 10 (zN) H zN ch false (-1) (-1) 0 Bu)) (X : AtC h b Fy (Ca Bx Gx Hx Sx cx true Ex Fx 0 Ux)) (D : ∀ c, F c → Fy c → False) (L : Lo h) (C : h.2.2.1 ≤ 6300 ∧ h.2.2.2 ≤ 39000) (k : ∀ h2 F2 Fy2 H2 ch2 Bu2, AtC h2 zb F2 (Ca 60 (z4T (zA kk)) H2 zN ch2 false (-1) (-1) 0 Bu2) → AtC h2 b Fy2 (Ca Bx Gx Hx Sx cx true Ex Fx 0 Ux) → (∀ c, F2 c → Fy2 c → False) → Lo h2 → (h2.2.2.1 ≤ 6350 ∧ h2.2.2.2 ≤ 39300) → yP S (d + 10) 286 614 [(0, .ref 12), (1, .ref b), (3, .int ox), (4, .int nw), (6, .int (zA kk)), (7, .ref zb)] [] h2 Q) : yP S (d + 10) 286 475 [(0, .ref 12), (1, .ref b), (3, .int ox), (4, .int nw), (6, .int (zA kk)), (7, .ref zb)] [] h Q := by
  obtain ⟨gs, o0⟩ := A.cell (fun c z => z.o)
  obtain ⟨gt, p0⟩ := X.cell (fun c z => z.o)
  refine ys_f 477 r_286_475 rfl ?_
  refine ys_ldc 479 r_286_477 rfl ?_
  refine ys_call (lv2 := [(0, _), (1, _)]) r_286_479 rfl rfl (by decide) (xcan_1 rfl) rfl (yP_up (show d + 8 ≤ d + 9 by omega) (la_161 stA_20 (by omega) A  (fun h41 F41 A41 M41 => ?_) ))
  have C41 := MvC.cost M41 C.1 C.2
  have L41 := L.mv M41 A.ge
  obtain ⟨B41, D41⟩ := X.keep M41 D A.ge
  obtain ⟨gt41, p41⟩ := B41.cell (fun c z => z.o)
  obtain ⟨gs41, o41⟩ := A41.cell (fun c z => z.o)
  refine yK_0 rfl ?_
  refine ys_f 484 r_286_482 rfl ?_
  refine ys_call (lv2 := [(0, _)]) r_286_484 rfl rfl (by decide) (xcan_0 rfl rfl (by first | assumption) (by rfl)) rfl (yP_up (show d + 7 ≤ d + 9 by omega) (qa_126C A41 (by omega) (t20_all Bu) (fun h42 F42 A42 M42 => ?_) ))
  have C42 := MvC.cost M42 C41.1 C41.2
  have L42 := L41.mv M42 A41.ge
  obtain ⟨B42, D42⟩ := B41.keep M42 D41 A41.ge
  obtain ⟨gt42, p42⟩ := B42.cell (fun c z => z.o)
  have A42b := A42.imp (fun c hc => hc.cong z1_r)
  obtain ⟨H42, c42, A42f⟩ := A42b.fg
  obtain ⟨gs42, o42⟩ := A42.cell (fun c z => z.o)
  refine yK_v rfl ?_
  refine ys_f 488 r_286_487 rfl ?_
  refine ys_f 491 r_286_488 rfl ?_
  refine ys_f 493 r_286_491 rfl ?_
  refine ys_f 494 r_286_493 rfl ?_
  refine ys_f 495 r_286_494 rfl ?_
  refine ys_f 497 r_286_495 rfl ?_
  refine ys_f 499 r_286_497 rfl ?_
  refine ys_f 501 r_286_499 rfl ?_
  refine ys_f 502 r_286_501 rfl ?_
  refine ys_f 503 r_286_502 rfl ?_
  refine ys_f 505 r_286_503 rfl ?_
  refine ys_call (lv2 := [(0, _), (1, _), (2, _), (3, _), (4, _), (5, _), (6, _)]) r_286_505 rfl rfl (by decide) (xcan_0 rfl rfl (by first | assumption) (by rfl)) rfl (yP_up (show d + 7 ≤ d + 9 by omega) (qa_86 A42f (by omega) (fun z => absurd ((zb_1 kk hk).1.1.symm.trans z) (by decide)) (fun z => absurd ((zb_1 kk hk).1.1.symm.trans z) (by decide)) (fun z => absurd ((zb_1 kk hk).1.1.symm.trans z) (by decide)) (fun z => absurd ((zb_1 kk hk).1.1.symm.trans z) (by decide)) (fun z => absurd ((zb_1 kk hk).1.1.symm.trans z) (by decide)) (fun z43 h43 F43 A43 M43 => ?_) ))
  have C43 := MvC.cost M43 C42.1 C42.2
  have L43 := L42.mv M43 A42f.ge
  obtain ⟨B43, D43⟩ := B42.keep M43 D42 A42f.ge
  obtain ⟨gt43, p43⟩ := B43.cell (fun c z => z.o)
  have A43b := A43.imp (fun c hc => (show Ca _ (z2F (zA kk)) _ _ _ _ _ _ _ _ c by have e := (zb_1 kk hk).1.2; rw [e.1, e.2] at hc; exact hc))
  obtain ⟨H43, c43, A43f⟩ := A43b.fg
  obtain ⟨gs43, o43⟩ := A43.cell (fun c z => z.o)
  refine yK_int ((zb_1 kk hk).2) ?_
  refine yK_v rfl ?_
  refine ys_f 510 r_286_508 rfl ?_
  refine ys_f 513 r_286_510 rfl ?_
  refine ys_f 515 r_286_513 rfl ?_
  refine ys_f 516 r_286_515 rfl ?_
  refine ys_f 517 r_286_516 rfl ?_
  refine ys_f 519 r_286_517 rfl ?_
  refine ys_f 521 r_286_519 rfl ?_
  refine ys_f 522 r_286_521 rfl ?_
  refine ys_f 524 r_286_522 rfl ?_
  refine ys_f 526 r_286_524 rfl ?_
  refine ys_f 527 r_286_526 rfl ?_
  refine ys_f 529 r_286_527 rfl ?_
  refine ys_f 531 r_286_529 rfl ?_
  refine ys_call (lv2 := [(0, _), (1, _), (2, _), (3, _), (4, _), (5, _), (6, _)]) r_286_531 rfl rfl (by decide) (xcan_0 rfl rfl (by first | assumption) (by rfl)) rfl (yP_up (show d + 7 ≤ d + 9 by omega) (qa_86 A43f (by omega) (fun z => absurd ((zb_2 kk hk).1.1.symm.trans z) (by decide)) (fun z => absurd ((zb_2 kk hk).1.1.symm.trans z) (by decide)) (fun z => absurd ((zb_2 kk hk).1.1.symm.trans z) (by decide)) (fun z => absurd ((zb_2 kk hk).1.1.symm.trans z) (by decide)) (fun z => absurd ((zb_2 kk hk).1.1.symm.trans z) (by decide)) (fun z44 h44 F44 A44 M44 => ?_) ))
  have C44 := MvC.cost M44 C43.1 C43.2
  have L44 := L43.mv M44 A43f.ge
  obtain ⟨B44, D44⟩ := B43.keep M44 D43 A43f.ge
  obtain ⟨gt44, p44⟩ := B44.cell (fun c z => z.o)
  have A44b := A44.imp (fun c hc => (show Ca _ (z3F (zA kk)) _ _ _ _ _ _ _ _ c by have e := (zb_2 kk hk).1.2; rw [e.1, e.2] at hc; exact hc))
  obtain ⟨H44, c44, A44f⟩ := A44b.fg
  obtain ⟨gs44, o44⟩ := A44.cell (fun c z => z.o)
  refine yK_int ((zb_2 kk hk).2) ?_
  refine yK_v rfl ?_
  refine ys_f 536 r_286_534 rfl ?_
  refine ys_f 539 r_286_536 rfl ?_
  refine ys_f 541 r_286_539 rfl ?_
  refine ys_f 542 r_286_541 rfl ?_
  refine ys_f 543 r_286_542 rfl ?_
  refine ys_f 545 r_286_543 rfl ?_
  refine ys_f 547 r_286_545 rfl ?_
  refine ys_f 548 r_286_547 rfl ?_
  refine ys_f 550 r_286_548 rfl ?_
  refine ys_f 552 r_286_550 rfl ?_
  refine ys_f 553 r_286_552 rfl ?_
  refine ys_f 554 r_286_553 rfl ?_
  refine ys_f 556 r_286_554 rfl ?_
  refine ys_call (lv2 := [(0, _), (1, _), (2, _), (3, _), (4, _), (5, _), (6, _)]) r_286_556 rfl rfl (by decide) (xcan_0 rfl rfl (by first | assumption) (by rfl)) rfl (yP_up (show d + 7 ≤ d + 9 by omega) (qa_86 A44f (by omega) (fun z => absurd ((zb_3 kk hk).1.1.symm.trans z) (by decide)) (fun z => absurd ((zb_3 kk hk).1.1.symm.trans z) (by decide)) (fun z => absurd ((zb_3 kk hk).1.1.symm.trans z) (by decide)) (fun z => absurd ((zb_3 kk hk).1.1.symm.trans z) (by decide)) (fun z => absurd ((zb_3 kk hk).1.1.symm.trans z) (by decide)) (fun z45 h45 F45 A45 M45 => ?_) ))
  have C45 := MvC.cost M45 C44.1 C44.2
  have L45 := L44.mv M45 A44f.ge
  obtain ⟨B45, D45⟩ := B44.keep M45 D44 A44f.ge
  obtain ⟨gt45, p45⟩ := B45.cell (fun c z => z.o)
  have A45b := A45.imp (fun c hc => (show Ca _ (z4T (zA kk)) _ _ _ _ _ _ _ _ c by have e := (zb_3 kk hk).1.2; rw [e.1, e.2] at hc; exact hc.cong (z4_r kk hk)))
  obtain ⟨H45, c45, A45f⟩ := A45b.fg
  obtain ⟨gs45, o45⟩ := A45.cell (fun c z => z.o)
  refine yK_int ((zb_3 kk hk).2) ?_
  refine yK_v rfl ?_
  refine ys_f 561 r_286_559 rfl ?_
  refine ys_f 564 r_286_561 rfl ?_
  refine ys_f 566 r_286_564 rfl ?_
  refine ys_f 567 r_286_566 rfl ?_
  refine ys_f 568 r_286_567 rfl ?_
  refine ys_f 569 r_286_568 rfl ?_
  refine ys_f 570 r_286_569 rfl ?_
  refine ys_f 571 r_286_570 rfl ?_
  refine ys_f 572 r_286_571 rfl ?_
  refine ys_call (lv2 := [(0, _), (1, _), (2, _), (3, _), (4, _), (5, _), (6, _)]) r_286_572 rfl rfl (by decide) (xcan_3 rfl rfl) rfl (yP_up (show d + 8 ≤ d + 9 by omega) (la_164 A45f (by omega) (fun z => absurd ((zb_4 kk hk).symm.trans z) (by decide)) (fun z => absurd ((zb_4 kk hk).symm.trans z) (by decide)) (fun z => absurd ((zb_4 kk hk).symm.trans z) (by decide)) (fun z => absurd ((zb_4 kk hk).symm.trans z) (by decide)) (fun z46 h46 F46 A46 M46 => ?_) (fun z => absurd ((zb_4 kk hk).symm.trans z) (by decide))))
  have C46 := MvC.cost M46 C45.1 C45.2
  have L46 := L45.mv M46 A45f.ge
  obtain ⟨B46, D46⟩ := B45.keep M46 D45 A45f.ge
  obtain ⟨gt46, p46⟩ := B46.cell (fun c z => z.o)
  obtain ⟨gs46, o46⟩ := A46.cell (fun c z => z.o)
  refine yK_v rfl ?_
  refine ys_f 577 r_286_575 rfl ?_
  refine ys_f 580 r_286_577 rfl ?_
  refine ys_f 582 r_286_580 rfl ?_
  refine ys_f 583 r_286_582 rfl ?_
  refine ys_f 584 r_286_583 rfl ?_
  refine ys_f 585 r_286_584 rfl ?_
  refine ys_f 586 r_286_585 rfl ?_
  refine ys_f 587 r_286_586 rfl ?_
  refine ys_f 588 r_286_587 rfl ?_
  refine ys_call (lv2 := [(0, _), (1, _), (2, _), (3, _), (4, _), (5, _), (6, _)]) r_286_588 rfl rfl (by decide) (xcan_3 rfl rfl) rfl (yP_up (show d + 8 ≤ d + 9 by omega) (la_164 A46 (by omega) (fun z => absurd ((zb_5 kk hk).symm.trans z) (by decide)) (fun z47 h47 F47 A47 M47 => ?_) (fun z => absurd ((zb_5 kk hk).symm.trans z) (by decide)) (fun z => absurd ((zb_5 kk hk).symm.trans z) (by decide)) (fun z => absurd ((zb_5 kk hk).symm.trans z) (by decide)) (fun z => absurd ((zb_5 kk hk).symm.trans z) (by decide))))
  have C47 := MvC.cost M47 C46.1 C46.2
  have L47 := L46.mv M47 A46.ge
  obtain ⟨B47, D47⟩ := B46.keep M47 D46 A46.ge
  obtain ⟨gt47, p47⟩ := B47.cell (fun c z => z.o)
  obtain ⟨gs47, o47⟩ := A47.cell (fun c z => z.o)
  refine yK_v rfl ?_
  refine ys_f 593 r_286_591 rfl ?_
  refine ys_f 596 r_286_593 rfl ?_
  refine ys_f 598 r_286_596 rfl ?_
  refine ys_f 599 r_286_598 rfl ?_
  refine ys_f 600 r_286_599 rfl ?_
  refine ys_f 601 r_286_600 rfl ?_
  refine ys_f 602 r_286_601 rfl ?_
  refine ys_f 603 r_286_602 rfl ?_
  refine ys_f 604 r_286_603 rfl ?_
  refine ys_call (lv2 := [(0, _), (1, _), (2, _), (3, _), (4, _), (5, _), (6, _)]) r_286_604 rfl rfl (by decide) (xcan_3 rfl rfl) rfl (yP_up (show d + 8 ≤ d + 9 by omega) (la_164 A47 (by omega) (fun z => absurd ((zb_6 kk hk).symm.trans z) (by decide)) (fun z => absurd ((zb_6 kk hk).symm.trans z) (by decide)) (fun z48 h48 F48 A48 M48 => ?_) (fun z => absurd ((zb_6 kk hk).symm.trans z) (by decide)) (fun z => absurd ((zb_6 kk hk).symm.trans z) (by decide)) (fun z => absurd ((zb_6 kk hk).symm.trans z) (by decide))))
  have C48 := MvC.cost M48 C47.1 C47.2
  have L48 := L47.mv M48 A47.ge
  obtain ⟨B48, D48⟩ := B47.keep M48 D47 A47.ge
  obtain ⟨gt48, p48⟩ := B48.cell (fun c z => z.o)
  obtain ⟨gs48, o48⟩ := A48.cell (fun c z => z.o)
  refine yK_v rfl ?_
  refine ys_f 609 r_286_607 rfl ?_
  refine ys_f 614 r_286_609 rfl ?_
  exact yP_lv [(0, .ref 12), (1, .ref b), (3, .int ox), (4, .int nw), (6, .int (zA kk)), (7, .ref zb)] rfl ⟨rfl, rfl, rfl, rfl, rfl, rfl, trivial⟩ (k _ _ _ _ _ _ (A48.imp (fun c hc => hc.up (by omega) (by omega))) B48 D48 L48 ⟨by omega, by omega⟩)

end UV
