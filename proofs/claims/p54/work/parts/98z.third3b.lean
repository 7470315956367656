/-! the law: the line compared -/
section UV
variable {S : XSc} {d b zb : Nat} {h : XH} {F Fy : Nat → Prop} {Q : XO → XH → Prop} {Gx Hx Sx : Nat → Int32} {cx Bx : Nat} {Ex Fx : Int32} {Ux : Nat → Int32} {nw ox : Int32} {kk : Nat} {H : Nat → Int32} {ch : Nat} {Bu : Nat → Int32} {ea fa : Int32}
theorem lw_u3a  (hk : kk < 64) (A : AtC h zb F (Ca 60 (z4T (zA kk)) H zN ch false (-1) (-1) 0 Bu)) (X : AtC h b Fy (Ca Bx Gx Hx Sx cx true Ex Fx 0 Ux)) (D : ∀ c, F c → Fy c → False) (L : Lo h) (C : h.2.2.1 ≤ 6350 ∧ h.2.2.2 ≤ 39300) (k : ∀ h2 F2 Fy2, AtC h2 zb F2 (Co 60 (z4T (zA kk)) H zN ch false (-1) (-1) 0 Bu 40 (wrG (z4T (zA kk)) 0).2) → AtC h2 b Fy2 (Ca Bx Gx Hx Sx cx true Ex Fx 0 Ux) → (∀ c, F2 c → Fy2 c → False) → Lo h2 → (h2.2.2.1 ≤ 6450 ∧ h2.2.2.2 ≤ 52600) → yP S (d + 10) 286 736 [(0, .ref 12), (1, .ref b), (3, .int ox), (4, .int nw), (6, .int (zA kk)), (7, .ref zb)] (.int (nI 40) :: .ref zb :: []) h2 Q) : yP S (d + 10) 286 614 [(0, .ref 12), (1, .ref b), (3, .int ox), (4, .int nw), (6, .int (zA kk)), (7, .ref zb)] [] h Q := by
  obtain ⟨gs, o0⟩ := A.cell (fun c z => z.o)
  obtain ⟨gt, p0⟩ := X.cell (fun c z => z.o)
  refine ys_f 616 r_286_614 rfl ?_
  refine ys_call (lv2 := [(0, _)]) r_286_616 rfl rfl (by decide) (xcan_0 rfl rfl (by first | assumption) (by rfl)) rfl (yP_up (show d + 7 ≤ d + 9 by omega) (qa_94 A  (fun h41 F41 A41 M41 => ?_) ))
  have C41 := MvC.cost M41 C.1 C.2
  have L41 := L.mv M41 A.ge
  obtain ⟨B41, D41⟩ := X.keep M41 D A.ge
  obtain ⟨gt41, p41⟩ := B41.cell (fun c z => z.o)
  obtain ⟨gs41, o41⟩ := A41.cell (fun c z => z.o)
  refine yK_int (zq_94 kk hk) ?_
  refine yK_v rfl ?_
  refine ys_f 621 r_286_619 rfl ?_
  refine ys_f 624 r_286_621 rfl ?_
  refine ys_f 626 r_286_624 rfl ?_
  refine ys_f 627 r_286_626 rfl ?_
  refine ys_call (lv2 := [(0, _), (1, _)]) r_286_627 rfl rfl (by decide) (xcan_0 rfl rfl (by first | assumption) (by rfl)) rfl (yP_up (show d + 7 ≤ d + 9 by omega) (qa_108 A41 (by rw [zq_108 hk]) (fun h42 F42 A42 M42 => ?_) ))
  have C42 := MvC.cost M42 C41.1 C41.2
  have L42 := L41.mv M42 A41.ge
  obtain ⟨B42, D42⟩ := B41.keep M42 D41 A41.ge
  obtain ⟨gt42, p42⟩ := B42.cell (fun c z => z.o)
  obtain ⟨gs42, o42⟩ := A42.cell (fun c z => z.o)
  refine yK_int ((congrArg Prod.snd (zq_108 hk))) ?_
  refine yK_v rfl ?_
  refine ys_f 632 r_286_630 rfl ?_
  refine ys_f 634 r_286_632 rfl ?_
  refine ys_f 635 r_286_634 rfl ?_
  refine ys_f 638 r_286_635 (congrArg (fun z => some (z, _)) (if_pos rfl)) ?_
  refine ys_f 640 r_286_638 rfl ?_
  refine ys_f 641 r_286_640 rfl ?_
  refine ys_call (lv2 := [(0, _), (1, _)]) r_286_641 rfl rfl (by decide) (xcan_0 rfl rfl (by first | assumption) (by rfl)) rfl (yP_up (show d + 7 ≤ d + 9 by omega) (qa_109 A42 (by rw [zq_108 hk]) (fun h43 F43 A43 M43 => ?_) ))
  have C43 := MvC.cost M43 C42.1 C42.2
  have L43 := L42.mv M43 A42.ge
  obtain ⟨B43, D43⟩ := B42.keep M43 D42 A42.ge
  obtain ⟨gt43, p43⟩ := B43.cell (fun c z => z.o)
  obtain ⟨gs43, o43⟩ := A43.cell (fun c z => z.o)
  refine yK_int ((congrArg Prod.snd (zq_108 hk))) ?_
  refine yK_v rfl ?_
  refine ys_f 646 r_286_644 rfl ?_
  refine ys_f 648 r_286_646 rfl ?_
  refine ys_f 649 r_286_648 rfl ?_
  refine ys_f 652 r_286_649 (congrArg (fun z => some (z, _)) (if_pos rfl)) ?_
  refine ys_f 654 r_286_652 rfl ?_
  refine ys_f 655 r_286_654 rfl ?_
  refine ys_call (lv2 := [(0, _), (1, _)]) r_286_655 rfl rfl (by decide) (xcan_0 rfl rfl (by first | assumption) (by rfl)) rfl (yP_up (show d + 7 ≤ d + 9 by omega) (qa_110 A43 (by rw [zq_110 hk]) (fun h44 F44 A44 M44 => ?_) ))
  have C44 := MvC.cost M44 C43.1 C43.2
  have L44 := L43.mv M44 A43.ge
  obtain ⟨B44, D44⟩ := B43.keep M44 D43 A43.ge
  obtain ⟨gt44, p44⟩ := B44.cell (fun c z => z.o)
  obtain ⟨gs44, o44⟩ := A44.cell (fun c z => z.o)
  refine yK_int ((congrArg Prod.snd (zq_110 hk))) ?_
  refine yK_v rfl ?_
  refine ys_f 660 r_286_658 rfl ?_
  refine ys_f 663 r_286_660 rfl ?_
  refine ys_f 665 r_286_663 rfl ?_
  refine ys_f 666 r_286_665 rfl ?_
  refine ys_f 668 r_286_666 rfl ?_
  refine ys_f 670 r_286_668 rfl ?_
  refine ys_f 671 r_286_670 rfl ?_
  refine ys_call (lv2 := [(0, _), (1, _), (2, _)]) r_286_671 rfl rfl (by decide) (xcan_0 rfl rfl (by first | assumption) (by rfl)) rfl (yP_up (show d + 7 ≤ d + 9 by omega) (qa_107 A44 (by rw [(zq_107 kk hk).1]) (fun h45 F45 A45 M45 => ?_) ))
  have C45 := MvC.cost M45 C44.1 C44.2
  have L45 := L44.mv M45 A44.ge
  obtain ⟨B45, D45⟩ := B44.keep M45 D44 A44.ge
  obtain ⟨gt45, p45⟩ := B45.cell (fun c z => z.o)
  obtain ⟨gs45, o45⟩ := A45.cell (fun c z => z.o)
  refine yK_int ((congrArg Prod.snd (zq_107 kk hk).1)) ?_
  refine yK_v rfl ?_
  refine ys_f 675 r_286_674 rfl ?_
  refine ys_f 678 r_286_675 rfl ?_
  refine ys_f 680 r_286_678 rfl ?_
  refine ys_f 681 r_286_680 rfl ?_
  refine ys_f 683 r_286_681 rfl ?_
  refine ys_f 685 r_286_683 rfl ?_
  refine ys_f 686 r_286_685 rfl ?_
  refine ys_call (lv2 := [(0, _), (1, _), (2, _)]) r_286_686 rfl rfl (by decide) (xcan_0 rfl rfl (by first | assumption) (by rfl)) rfl (yP_up (show d + 7 ≤ d + 9 by omega) (qa_107 A45 (by rw [(zq_107 kk hk).2]) (fun h46 F46 A46 M46 => ?_) ))
  have C46 := MvC.cost M46 C45.1 C45.2
  have L46 := L45.mv M46 A45.ge
  obtain ⟨B46, D46⟩ := B45.keep M46 D45 A45.ge
  obtain ⟨gt46, p46⟩ := B46.cell (fun c z => z.o)
  obtain ⟨gs46, o46⟩ := A46.cell (fun c z => z.o)
  refine yK_int ((congrArg Prod.snd (zq_107 kk hk).2)) ?_
  refine yK_v rfl ?_
  refine ys_f 690 r_286_689 rfl ?_
  refine ys_f 693 r_286_690 rfl ?_
  refine ys_f 695 r_286_693 rfl ?_
  refine ys_f 696 r_286_695 rfl ?_
  refine ys_f 697 r_286_696 rfl ?_
  refine ys_call (lv2 := [(0, _), (1, _), (2, _)]) r_286_697 rfl rfl (by decide) (xcan_0 rfl rfl (by first | assumption) (by rfl)) rfl (yP_up (show d + 7 ≤ d + 9 by omega) (qa_106 A46 (by rw [zq_106_0 kk hk]) (fun h47 F47 A47 M47 => ?_) ))
  have C47 := MvC.cost M47 C46.1 C46.2
  have L47 := L46.mv M47 A46.ge
  obtain ⟨B47, D47⟩ := B46.keep M47 D46 A46.ge
  obtain ⟨gt47, p47⟩ := B47.cell (fun c z => z.o)
  obtain ⟨gs47, o47⟩ := A47.cell (fun c z => z.o)
  refine yK_int ((congrArg Prod.snd (zq_106_0 kk hk))) ?_
  refine yK_v rfl ?_
  refine ys_f 702 r_286_700 rfl ?_
  refine ys_f 705 r_286_702 rfl ?_
  refine ys_f 707 r_286_705 rfl ?_
  refine ys_f 708 r_286_707 rfl ?_
  refine ys_f 709 r_286_708 rfl ?_
  refine ys_call (lv2 := [(0, _), (1, _), (2, _)]) r_286_709 rfl rfl (by decide) (xcan_0 rfl rfl (by first | assumption) (by rfl)) rfl (yP_up (show d + 7 ≤ d + 9 by omega) (qa_106 A47 (by rw [zq_106_1 kk hk]) (fun h48 F48 A48 M48 => ?_) ))
  have C48 := MvC.cost M48 C47.1 C47.2
  have L48 := L47.mv M48 A47.ge
  obtain ⟨B48, D48⟩ := B47.keep M48 D47 A47.ge
  obtain ⟨gt48, p48⟩ := B48.cell (fun c z => z.o)
  obtain ⟨gs48, o48⟩ := A48.cell (fun c z => z.o)
  refine yK_int ((congrArg Prod.snd (zq_106_1 kk hk))) ?_
  refine yK_v rfl ?_
  refine ys_f 713 r_286_712 rfl ?_
  refine ys_f 716 r_286_713 rfl ?_
  refine ys_f 718 r_286_716 rfl ?_
  refine ys_f 719 r_286_718 rfl ?_
  refine ys_f 720 r_286_719 rfl ?_
  refine ys_call (lv2 := [(0, _), (1, _), (2, _)]) r_286_720 rfl rfl (by decide) (xcan_0 rfl rfl (by first | assumption) (by rfl)) rfl (yP_up (show d + 7 ≤ d + 9 by omega) (qa_106 A48 (by rw [zq_106_2 kk hk]) (fun h49 F49 A49 M49 => ?_) ))
  have C49 := MvC.cost M49 C48.1 C48.2
  have L49 := L48.mv M49 A48.ge
  obtain ⟨B49, D49⟩ := B48.keep M49 D48 A48.ge
  obtain ⟨gt49, p49⟩ := B49.cell (fun c z => z.o)
  obtain ⟨gs49, o49⟩ := A49.cell (fun c z => z.o)
  refine yK_int ((congrArg Prod.snd (zq_106_2 kk hk))) ?_
  refine yK_v rfl ?_
  refine ys_f 725 r_286_723 rfl ?_
  refine ys_f 728 r_286_725 rfl ?_
  refine ys_f 730 r_286_728 rfl ?_
  refine ys_f 732 r_286_730 rfl ?_
  refine ys_f 733 r_286_732 rfl ?_
  refine ys_call (lv2 := [(0, _), (1, _)]) r_286_733 rfl rfl (by decide) (xcan_0 rfl rfl (by first | assumption) (by rfl)) rfl (yP_up (show d + 7 ≤ d + 9 by omega) (qa_129 A49 (by rw [(z_pla kk hk).1, (z_pla kk hk).2.1]; decide) (fun h50 F50 A50 M50 => ?_)))
  have C50 := MvC.cost M50 C49.1 C49.2
  have L50 := L49.mv M50 A49.ge
  obtain ⟨B50, D50⟩ := B49.keep M50 D49 A49.ge
  rw [(z_pla kk hk).1, (z_line kk hk).1] at A50
  refine yK_int (w := nI 40) (by rw [(z_pla kk hk).1, (z_line kk hk).1]) ?_
  refine yK_v rfl ?_
  exact yP_lv [(0, .ref 12), (1, .ref b), (3, .int ox), (4, .int nw), (6, .int (zA kk)), (7, .ref zb)] rfl ⟨rfl, rfl, rfl, rfl, rfl, rfl, trivial⟩ (k _ _ _ A50 B50 D50 L50 ⟨by omega, by omega⟩)

theorem lw_u3c  (hk : kk < 64) (A : AtC h zb F (Co 60 (z4T (zA kk)) H zN ch false (-1) (-1) 0 Bu 40 (wrG (z4T (zA kk)) 0).2)) (X : AtC h b Fy (Ca Bx Gx Hx Sx cx true Ex Fx 0 Ux)) (D : ∀ c, F c → Fy c → False) (L : Lo h) (C : h.2.2.1 ≤ 6480 ∧ h.2.2.2 ≤ 58600) {t : Nat} (hs : StH h F t 40 (zLine (100 + kk)).2) (k : ∀ h2 F2 Fy2 H2 ch2 Bu2, AtC h2 zb F2 (Ca 60 (z4T (zA kk)) H2 zN ch2 false (-1) (-1) 0 Bu2) → AtC h2 b Fy2 (Ca Bx Gx Hx Sx cx true Ex Fx 0 Ux) → (∀ c, F2 c → Fy2 c → False) → Lo h2 → (h2.2.2.1 ≤ 7000 ∧ h2.2.2.2 ≤ 60000) → yP S (d + 10) 286 834 [(0, .ref 12), (1, .ref b), (3, .int ox), (4, .int nw), (6, .int (zA kk)), (7, .ref zb)] [] h2 Q) : yP S (d + 10) 286 826 [(0, .ref 12), (1, .ref b), (3, .int ox), (4, .int nw), (6, .int (zA kk)), (7, .ref zb)] [.ref t, .int (nI 40), .ref zb] h Q := by
  refine ys_call (lv2 := [(0, _), (1, _), (2, _)]) r_286_826 rfl rfl (by decide) (xcan_1 rfl) rfl (yP_up (show d + 8 ≤ d + 9 by omega) (la_167 A hs rfl (fun i hi => (z_line kk hk).2.2 i hi) (fun h41 F41 A410 M41 => ?_)))
  have A41 := A410.imp (fun c z => z.1)
  have C41 := MvC.cost M41 C.1 C.2
  have L41 := L.mv M41 A.ge
  obtain ⟨B41, D41⟩ := X.keep M41 D A.ge
  refine yK_v rfl ?_
  refine ys_f 834 r_286_829 rfl ?_
  exact yP_lv [(0, .ref 12), (1, .ref b), (3, .int ox), (4, .int nw), (6, .int (zA kk)), (7, .ref zb)] rfl ⟨rfl, rfl, rfl, rfl, rfl, rfl, trivial⟩ (k _ _ _ _ _ _ A41 B41 D41 L41 ⟨by omega, by omega⟩)

theorem lw_u3 (hk : kk < 64) (A : AtC h zb F (Ca 60 (z4T (zA kk)) H zN ch false (-1) (-1) 0 Bu)) (X : AtC h b Fy (Ca Bx Gx Hx Sx cx true Ex Fx 0 Ux)) (D : ∀ c, F c → Fy c → False) (L : Lo h) (C : h.2.2.1 ≤ 6350 ∧ h.2.2.2 ≤ 39300) (k : ∀ h2 F2 Fy2 H2 ch2 Bu2, AtC h2 zb F2 (Ca 60 (z4T (zA kk)) H2 zN ch2 false (-1) (-1) 0 Bu2) → AtC h2 b Fy2 (Ca Bx Gx Hx Sx cx true Ex Fx 0 Ux) → (∀ c, F2 c → Fy2 c → False) → Lo h2 → (h2.2.2.1 ≤ 7000 ∧ h2.2.2.2 ≤ 60000) → yP S (d + 10) 286 834 [(0, .ref 12), (1, .ref b), (3, .int ox), (4, .int nw), (6, .int (zA kk)), (7, .ref zb)] [] h2 Q) : yP S (d + 10) 286 614 [(0, .ref 12), (1, .ref b), (3, .int ox), (4, .int nw), (6, .int (zA kk)), (7, .ref zb)] [] h Q := by
  refine lw_u3a hk A X D L C (fun h2 F2 Fy2 A2 X2 D2 L2 C2 => ?_)
  obtain ⟨k0, hk0, hF⟩ := A2.lt
  obtain ⟨k1, hk1, hG⟩ := X2.lt
  cases hk0.symm.trans hk1
  refine lw_due hk L2 hk0 (fun h3 t v2 ht o r hD fr ee c1 c2 => ?_)
  obtain ⟨k2, e2, le2, lt, lv⟩ := ee
  have e40 := (z_line kk hk).2.1
  rw [e40] at r hD
  have A3 := A2.fr hk0 e2 le2 (fun c hc => fr c (by omega)) (fun c hc => fr c (hF c hc).2)
  have X3 := X2.fr hk0 e2 le2 (fun c hc => fr c (by omega)) (fun c hc => fr c (hG c hc).2)
  exact lw_u3c hk A3 X3 D2 (fun a ha => (fr a (by omega)).trans (L2 a ha)) ⟨by omega, by omega⟩ ⟨⟨v2, o, r, ⟨by omega, by omega⟩, ⟨fun q => by have := hF _ q; omega, fun q => by have := hF _ q; omega⟩, k2, e2, lt, lv⟩, by omega, hD⟩ k
end UV
