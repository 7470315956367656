/-! the law: the third contest, settled -/
theorem zc_123 : ∀ k, k < 64 → xsum (fun i => (z7T (zA k)) (30 + 9 * i + (9 : Int32).toNatClampNeg - 1)) (npG (z7T (zA k))) = 1 ∧ xsum (fun i => (z7T (zA k)) (75 + 9 * i + (9 : Int32).toNatClampNeg - 1)) (npG (z7T (zA k))) = 1 := by decide +kernel
theorem zc_116 : ∀ k, k < 64 → (isPl (npG (z7T (zA k))) 2 ∧ szP (gP (z7T (zA k)) (2 : Int32).toNatClampNeg) = 1) ∧ (gP (z7T (zA k)) (2 : Int32).toNatClampNeg).2.1 = 10 := by decide +kernel
section UV
variable {S : XSc} {d b zb : Nat} {h : XH} {F Fy : Nat → Prop} {Q : XO → XH → Prop} {Gx Hx Sx : Nat → Int32} {cx Bx : Nat} {Ex Fx : Int32} {Ux : Nat → Int32} {nw ox : Int32} {kk : Nat} {H : Nat → Int32} {ch : Nat} {Bu : Nat → Int32} {ea fa : Int32}
theorem lw_u4  (hk : kk < 64) (A : AtC h zb F (Ca 60 (z4T (zA kk)) H zN ch false (-1) (-1) 0 Bu)) (X : AtC h b Fy (Ca Bx Gx Hx Sx cx true Ex Fx 0 Ux)) (D : ∀ c, F c → Fy c → False) (L : Lo h) (C : h.2.2.1 ≤ 7000 ∧ h.2.2.2 ≤ 60000) (k : ∀ h2 F2 Fy2 H2 ch2 Bu2, AtC h2 zb F2 (Ca 80 (z7T (zA kk)) H2 zN ch2 false (-1) (-1) 0 Bu2) → AtC h2 b Fy2 (Ca Bx Gx Hx Sx cx true Ex Fx 0 Ux) → (∀ c, F2 c → Fy2 c → False) → Lo h2 → (h2.2.2.1 ≤ 7050 ∧ h2.2.2.2 ≤ 60300) → yP S (d + 10) 286 1053 [(0, .ref 12), (1, .ref b), (3, .int ox), (4, .int nw), (6, .int (zA kk)), (7, .ref zb)] [] h2 Q) : yP S (d + 10) 286 834 [(0, .ref 12), (1, .ref b), (3, .int ox), (4, .int nw), (6, .int (zA kk)), (7, .ref zb)] [] h Q := by
  obtain ⟨gs, o0⟩ := A.cell (fun c z => z.o)
  obtain ⟨gt, p0⟩ := X.cell (fun c z => z.o)
  refine ys_f 836 r_286_834 rfl ?_
  refine ys_call (lv2 := [(0, _)]) r_286_836 rfl rfl (by decide) (xcan_0 rfl rfl (by first | assumption) (by rfl)) rfl (yP_up (show d + 7 ≤ d + 9 by omega) (qa_88 A (by omega) (fun z => absurd ((zp_4 kk hk).1.symm.trans z) (by decide)) (fun z41 h41 F41 A41 M41 => ?_) ))
  have C41 := MvC.cost M41 C.1 C.2
  have L41 := L.mv M41 A.ge
  obtain ⟨B41, D41⟩ := X.keep M41 D A.ge
  obtain ⟨gt41, p41⟩ := B41.cell (fun c z => z.o)
  have A41b := A41.imp (fun c hc => (show Ca _ (z5T (zA kk)) _ _ _ _ _ _ _ _ c by have e := (zn_4 kk hk).1; rw [e] at hc; exact hc.cong (zr_5 kk hk)))
  obtain ⟨H41, c41, A41f⟩ := A41b.fg
  obtain ⟨gs41, o41⟩ := A41.cell (fun c z => z.o)
  refine yK_int ((zp_4 kk hk).2) ?_
  refine yK_v rfl ?_
  refine ys_f 840 r_286_839 rfl ?_
  refine ys_f 843 r_286_840 rfl ?_
  refine ys_f 845 r_286_843 rfl ?_
  refine ys_f 846 r_286_845 rfl ?_
  refine ys_call (lv2 := [(0, _), (1, _)]) r_286_846 rfl rfl (by decide) (xcan_0 rfl rfl (by first | assumption) (by rfl)) rfl (yP_up (show d + 7 ≤ d + 9 by omega) (qa_97 A41f (by rw [zq_97 kk hk]) (fun h42 F42 A42 M42 => ?_) ))
  have C42 := MvC.cost M42 C41.1 C41.2
  have L42 := L41.mv M42 A41f.ge
  obtain ⟨B42, D42⟩ := B41.keep M42 D41 A41f.ge
  obtain ⟨gt42, p42⟩ := B42.cell (fun c z => z.o)
  obtain ⟨gs42, o42⟩ := A42.cell (fun c z => z.o)
  refine yK_int ((congrArg Prod.snd (zq_97 kk hk))) ?_
  refine yK_v rfl ?_
  refine ys_f 850 r_286_849 rfl ?_
  refine ys_f 853 r_286_850 rfl ?_
  refine ys_f 855 r_286_853 rfl ?_
  refine ys_call (lv2 := [(0, _)]) r_286_855 rfl rfl (by decide) (xcan_0 rfl rfl (by first | assumption) (by rfl)) rfl (yP_up (show d + 7 ≤ d + 9 by omega) (qa_88 A42 (by omega) (fun z => absurd ((zp_5 kk hk).1.symm.trans z) (by decide)) (fun z43 h43 F43 A43 M43 => ?_) ))
  have C43 := MvC.cost M43 C42.1 C42.2
  have L43 := L42.mv M43 A42.ge
  obtain ⟨B43, D43⟩ := B42.keep M43 D42 A42.ge
  obtain ⟨gt43, p43⟩ := B43.cell (fun c z => z.o)
  have A43b := A43.imp (fun c hc => (show Ca _ (z4T (zA kk)) _ _ _ _ _ _ _ _ c by have e := (zn_5 kk hk); rw [e] at hc; exact hc.cong (zr_6 kk hk)))
  obtain ⟨H43, c43, A43f⟩ := A43b.fg
  obtain ⟨gs43, o43⟩ := A43.cell (fun c z => z.o)
  refine yK_int ((zp_5 kk hk).2) ?_
  refine yK_v rfl ?_
  refine ys_f 861 r_286_858 rfl ?_
  refine ys_f 863 r_286_861 rfl ?_
  refine ys_f 865 r_286_863 rfl ?_
  refine ys_f 867 r_286_865 rfl ?_
  refine ys_f 868 r_286_867 rfl ?_
  refine ys_call (lv2 := [(0, _), (1, _)]) r_286_868 rfl rfl (by decide) (xcan_0 rfl rfl (by first | assumption) (by rfl)) rfl (yP_up (show d + 7 ≤ d + 9 by omega) (qa_87 A43f (by omega) (fun z => absurd ((zs_6 kk hk).1.symm.trans z) (by decide)) (fun z => absurd ((zs_6 kk hk).1.symm.trans z) (by decide)) (fun z44 h44 F44 A44 M44 => ?_) ))
  have C44 := MvC.cost M44 C43.1 C43.2
  have L44 := L43.mv M44 A43f.ge
  obtain ⟨B44, D44⟩ := B43.keep M44 D43 A43f.ge
  obtain ⟨gt44, p44⟩ := B44.cell (fun c z => z.o)
  have A44b := A44.imp (fun c hc => (show Ca _ (z7T (zA kk)) _ _ _ _ _ _ _ _ c by have e := zn_4 kk hk; rw [e.1, e.2.1, e.2.2] at hc; exact hc.cong (zr_7 kk hk)))
  obtain ⟨H44, c44, A44f⟩ := A44b.fg
  obtain ⟨gs44, o44⟩ := A44.cell (fun c z => z.o)
  refine yK_int ((zs_6 kk hk).2) ?_
  refine yK_v rfl ?_
  refine ys_f 872 r_286_871 rfl ?_
  refine ys_f 875 r_286_872 rfl ?_
  refine ys_f 877 r_286_875 rfl ?_
  refine ys_f 878 r_286_877 rfl ?_
  refine ys_call (lv2 := [(0, _), (1, _)]) r_286_878 rfl rfl (by decide) (xcan_0 rfl rfl (by first | assumption) (by rfl)) rfl (yP_up (show d + 7 ≤ d + 9 by omega) (qa_91 A44f (by rw [zc_91_0 kk hk]) (fun h45 F45 A45 M45 => ?_) ))
  have C45 := MvC.cost M45 C44.1 C44.2
  have L45 := L44.mv M45 A44f.ge
  obtain ⟨B45, D45⟩ := B44.keep M45 D44 A44f.ge
  obtain ⟨gt45, p45⟩ := B45.cell (fun c z => z.o)
  obtain ⟨gs45, o45⟩ := A45.cell (fun c z => z.o)
  refine yK_int ((congrArg Prod.snd (zc_91_0 kk hk))) ?_
  refine yK_v rfl ?_
  refine ys_f 883 r_286_881 rfl ?_
  refine ys_f 886 r_286_883 rfl ?_
  refine ys_f 888 r_286_886 rfl ?_
  refine ys_f 889 r_286_888 rfl ?_
  refine ys_call (lv2 := [(0, _), (1, _)]) r_286_889 rfl rfl (by decide) (xcan_0 rfl rfl (by first | assumption) (by rfl)) rfl (yP_up (show d + 7 ≤ d + 9 by omega) (qa_91 A45 (by rw [zc_91_1 kk hk]) (fun h46 F46 A46 M46 => ?_) ))
  have C46 := MvC.cost M46 C45.1 C45.2
  have L46 := L45.mv M46 A45.ge
  obtain ⟨B46, D46⟩ := B45.keep M46 D45 A45.ge
  obtain ⟨gt46, p46⟩ := B46.cell (fun c z => z.o)
  obtain ⟨gs46, o46⟩ := A46.cell (fun c z => z.o)
  refine yK_int ((congrArg Prod.snd (zc_91_1 kk hk))) ?_
  refine yK_v rfl ?_
  refine ys_f 894 r_286_892 rfl ?_
  refine ys_f 897 r_286_894 rfl ?_
  refine ys_f 899 r_286_897 rfl ?_
  refine ys_f 900 r_286_899 rfl ?_
  refine ys_call (lv2 := [(0, _), (1, _)]) r_286_900 rfl rfl (by decide) (xcan_0 rfl rfl (by first | assumption) (by rfl)) rfl (yP_up (show d + 7 ≤ d + 9 by omega) (qa_91 A46 (by rw [zc_91_2 kk hk]) (fun h47 F47 A47 M47 => ?_) ))
  have C47 := MvC.cost M47 C46.1 C46.2
  have L47 := L46.mv M47 A46.ge
  obtain ⟨B47, D47⟩ := B46.keep M47 D46 A46.ge
  obtain ⟨gt47, p47⟩ := B47.cell (fun c z => z.o)
  obtain ⟨gs47, o47⟩ := A47.cell (fun c z => z.o)
  refine yK_int ((congrArg Prod.snd (zc_91_2 kk hk))) ?_
  refine yK_v rfl ?_
  refine ys_f 906 r_286_903 rfl ?_
  refine ys_f 909 r_286_906 rfl ?_
  refine ys_f 911 r_286_909 rfl ?_
  refine ys_call (lv2 := [(0, _)]) r_286_911 rfl rfl (by decide) (xcan_0 rfl rfl (by first | assumption) (by rfl)) rfl (yP_up (show d + 7 ≤ d + 9 by omega) (qa_93 A47  (fun h48 F48 A48 M48 => ?_) ))
  have C48 := MvC.cost M48 C47.1 C47.2
  have L48 := L47.mv M48 A47.ge
  obtain ⟨B48, D48⟩ := B47.keep M48 D47 A47.ge
  obtain ⟨gt48, p48⟩ := B48.cell (fun c z => z.o)
  obtain ⟨gs48, o48⟩ := A48.cell (fun c z => z.o)
  refine yK_int (zc_93 kk hk) ?_
  refine yK_v rfl ?_
  refine ys_f 916 r_286_914 rfl ?_
  refine ys_f 919 r_286_916 rfl ?_
  refine ys_f 921 r_286_919 rfl ?_
  refine ys_f 922 r_286_921 rfl ?_
  refine ys_call (lv2 := [(0, _), (1, _)]) r_286_922 rfl rfl (by decide) (xcan_0 rfl rfl (by first | assumption) (by rfl)) rfl (yP_up (show d + 7 ≤ d + 9 by omega) (qa_115 A48 (by rw [zc_115_0 kk hk]) (fun h49 F49 A49 M49 => ?_) ))
  have C49 := MvC.cost M49 C48.1 C48.2
  have L49 := L48.mv M49 A48.ge
  obtain ⟨B49, D49⟩ := B48.keep M49 D48 A48.ge
  obtain ⟨gt49, p49⟩ := B49.cell (fun c z => z.o)
  obtain ⟨gs49, o49⟩ := A49.cell (fun c z => z.o)
  refine yK_int ((congrArg Prod.snd (zc_115_0 kk hk))) ?_
  refine yK_v rfl ?_
  refine ys_f 928 r_286_925 rfl ?_
  refine ys_f 931 r_286_928 rfl ?_
  refine ys_f 933 r_286_931 rfl ?_
  refine ys_f 934 r_286_933 rfl ?_
  refine ys_call (lv2 := [(0, _), (1, _)]) r_286_934 rfl rfl (by decide) (xcan_0 rfl rfl (by first | assumption) (by rfl)) rfl (yP_up (show d + 7 ≤ d + 9 by omega) (qa_115 A49 (by rw [zc_115_1 kk hk]) (fun h50 F50 A50 M50 => ?_) ))
  have C50 := MvC.cost M50 C49.1 C49.2
  have L50 := L49.mv M50 A49.ge
  obtain ⟨B50, D50⟩ := B49.keep M50 D49 A49.ge
  obtain ⟨gt50, p50⟩ := B50.cell (fun c z => z.o)
  obtain ⟨gs50, o50⟩ := A50.cell (fun c z => z.o)
  refine yK_int ((congrArg Prod.snd (zc_115_1 kk hk))) ?_
  refine yK_v rfl ?_
  refine ys_f 939 r_286_937 rfl ?_
  refine ys_f 942 r_286_939 rfl ?_
  refine ys_f 944 r_286_942 rfl ?_
  refine ys_f 945 r_286_944 rfl ?_
  refine ys_call (lv2 := [(0, _), (1, _)]) r_286_945 rfl rfl (by decide) (xcan_0 rfl rfl (by first | assumption) (by rfl)) rfl (yP_up (show d + 7 ≤ d + 9 by omega) (qa_115 A50 (by rw [zc_115_2 kk hk]) (fun h51 F51 A51 M51 => ?_) ))
  have C51 := MvC.cost M51 C50.1 C50.2
  have L51 := L50.mv M51 A50.ge
  obtain ⟨B51, D51⟩ := B50.keep M51 D50 A50.ge
  obtain ⟨gt51, p51⟩ := B51.cell (fun c z => z.o)
  obtain ⟨gs51, o51⟩ := A51.cell (fun c z => z.o)
  refine yK_int ((congrArg Prod.snd (zc_115_2 kk hk))) ?_
  refine yK_v rfl ?_
  refine ys_f 950 r_286_948 rfl ?_
  refine ys_f 953 r_286_950 rfl ?_
  refine ys_f 955 r_286_953 rfl ?_
  refine ys_f 956 r_286_955 rfl ?_
  refine ys_call (lv2 := [(0, _), (1, _)]) r_286_956 rfl rfl (by decide) (xcan_0 rfl rfl (by first | assumption) (by rfl)) rfl (yP_up (show d + 7 ≤ d + 9 by omega) (qa_119 A51 (by rw [zc_119_0 kk hk]) (fun h52 F52 A52 M52 => ?_) ))
  have C52 := MvC.cost M52 C51.1 C51.2
  have L52 := L51.mv M52 A51.ge
  obtain ⟨B52, D52⟩ := B51.keep M52 D51 A51.ge
  obtain ⟨gt52, p52⟩ := B52.cell (fun c z => z.o)
  obtain ⟨gs52, o52⟩ := A52.cell (fun c z => z.o)
  refine yK_int ((congrArg Prod.snd (zc_119_0 kk hk))) ?_
  refine yK_v rfl ?_
  refine ys_f 960 r_286_959 rfl ?_
  refine ys_f 963 r_286_960 rfl ?_
  refine ys_f 965 r_286_963 rfl ?_
  refine ys_f 966 r_286_965 rfl ?_
  refine ys_call (lv2 := [(0, _), (1, _)]) r_286_966 rfl rfl (by decide) (xcan_0 rfl rfl (by first | assumption) (by rfl)) rfl (yP_up (show d + 7 ≤ d + 9 by omega) (qa_119 A52 (by rw [zc_119_2 kk hk]) (fun h53 F53 A53 M53 => ?_) ))
  have C53 := MvC.cost M53 C52.1 C52.2
  have L53 := L52.mv M53 A52.ge
  obtain ⟨B53, D53⟩ := B52.keep M53 D52 A52.ge
  obtain ⟨gt53, p53⟩ := B53.cell (fun c z => z.o)
  obtain ⟨gs53, o53⟩ := A53.cell (fun c z => z.o)
  refine yK_int ((congrArg Prod.snd (zc_119_2 kk hk))) ?_
  refine yK_v rfl ?_
  refine ys_f 972 r_286_969 rfl ?_
  refine ys_f 974 r_286_972 rfl ?_
  refine ys_f 975 r_286_974 rfl ?_
  refine ys_call (lv2 := [(0, _), (1, _)]) r_286_975 rfl rfl (by decide) (xcan_0 rfl rfl (by first | assumption) (by rfl)) rfl (yP_up (show d + 7 ≤ d + 9 by omega) (qa_117 A53 (by rw [zc_117_0 kk hk]) (fun h54 F54 A54 M54 => ?_) ))
  have C54 := MvC.cost M54 C53.1 C53.2
  have L54 := L53.mv M54 A53.ge
  obtain ⟨B54, D54⟩ := B53.keep M54 D53 A53.ge
  obtain ⟨gt54, p54⟩ := B54.cell (fun c z => z.o)
  obtain ⟨gs54, o54⟩ := A54.cell (fun c z => z.o)
  refine yK_int ((congrArg Prod.snd (zc_117_0 kk hk))) ?_
  refine yK_v rfl ?_
  refine ys_f 979 r_286_978 rfl ?_
  refine ys_f 982 r_286_979 rfl ?_
  refine ys_f 984 r_286_982 rfl ?_
  refine ys_f 985 r_286_984 rfl ?_
  refine ys_call (lv2 := [(0, _), (1, _)]) r_286_985 rfl rfl (by decide) (xcan_0 rfl rfl (by first | assumption) (by rfl)) rfl (yP_up (show d + 7 ≤ d + 9 by omega) (qa_117 A54 (by rw [zc_117_1 kk hk]) (fun h55 F55 A55 M55 => ?_) ))
  have C55 := MvC.cost M55 C54.1 C54.2
  have L55 := L54.mv M55 A54.ge
  obtain ⟨B55, D55⟩ := B54.keep M55 D54 A54.ge
  obtain ⟨gt55, p55⟩ := B55.cell (fun c z => z.o)
  obtain ⟨gs55, o55⟩ := A55.cell (fun c z => z.o)
  refine yK_int ((congrArg Prod.snd (zc_117_1 kk hk))) ?_
  refine yK_v rfl ?_
  refine ys_f 989 r_286_988 rfl ?_
  refine ys_f 992 r_286_989 rfl ?_
  refine ys_f 994 r_286_992 rfl ?_
  refine ys_f 995 r_286_994 rfl ?_
  refine ys_call (lv2 := [(0, _), (1, _)]) r_286_995 rfl rfl (by decide) (xcan_0 rfl rfl (by first | assumption) (by rfl)) rfl (yP_up (show d + 7 ≤ d + 9 by omega) (qa_117 A55 (by rw [zc_117_2 kk hk]) (fun h56 F56 A56 M56 => ?_) ))
  have C56 := MvC.cost M56 C55.1 C55.2
  have L56 := L55.mv M56 A55.ge
  obtain ⟨B56, D56⟩ := B55.keep M56 D55 A55.ge
  obtain ⟨gt56, p56⟩ := B56.cell (fun c z => z.o)
  obtain ⟨gs56, o56⟩ := A56.cell (fun c z => z.o)
  refine yK_int ((congrArg Prod.snd (zc_117_2 kk hk))) ?_
  refine yK_v rfl ?_
  refine ys_f 1000 r_286_998 rfl ?_
  refine ys_f 1003 r_286_1000 rfl ?_
  refine ys_f 1005 r_286_1003 rfl ?_
  refine ys_call (lv2 := [(0, _)]) r_286_1005 rfl rfl (by decide) (xcan_0 rfl rfl (by first | assumption) (by rfl)) rfl (yP_up (show d + 7 ≤ d + 9 by omega) (qa_118 A56 (by rw [zc_118 kk hk]) (fun h57 F57 A57 M57 => ?_) ))
  have C57 := MvC.cost M57 C56.1 C56.2
  have L57 := L56.mv M57 A56.ge
  obtain ⟨B57, D57⟩ := B56.keep M57 D56 A56.ge
  obtain ⟨gt57, p57⟩ := B57.cell (fun c z => z.o)
  obtain ⟨gs57, o57⟩ := A57.cell (fun c z => z.o)
  refine yK_int ((congrArg Prod.snd (zc_118 kk hk))) ?_
  refine yK_v rfl ?_
  refine ys_f 1009 r_286_1008 rfl ?_
  refine ys_f 1012 r_286_1009 rfl ?_
  refine ys_f 1014 r_286_1012 rfl ?_
  refine ys_f 1016 r_286_1014 rfl ?_
  refine ys_call (lv2 := [(0, _), (1, _)]) r_286_1016 rfl rfl (by decide) (xcan_0 rfl rfl (by first | assumption) (by rfl)) rfl (yP_up (show d + 7 ≤ d + 9 by omega) (qa_123 A57 (by decide) (by rw [(zc_123 kk hk).1]; decide) (fun h58 F58 A58 M58 => ?_) ))
  have C58 := MvC.cost M58 C57.1 C57.2
  have L58 := L57.mv M58 A57.ge
  obtain ⟨B58, D58⟩ := B57.keep M58 D57 A57.ge
  obtain ⟨gt58, p58⟩ := B58.cell (fun c z => z.o)
  obtain ⟨gs58, o58⟩ := A58.cell (fun c z => z.o)
  refine yK_lit (w := .float (FP.fdiv (FP.i2f 1) (FP.i2f 1))) (by rw [(zc_123 kk hk).1, (zc_123 kk hk).2]) ?_
  refine yK_v rfl ?_
  refine ys_f 1020 r_286_1019 rfl ?_
  refine ys_f 1021 r_286_1020 rfl ?_
  refine yP_top (w := 0) (by decide +kernel) ?_
  refine ys_f 1024 r_286_1021 rfl ?_
  refine ys_f 1026 r_286_1024 rfl ?_
  refine ys_f 1027 r_286_1026 rfl ?_
  refine ys_call (lv2 := [(0, _), (1, _)]) r_286_1027 rfl rfl (by decide) (xcan_0 rfl rfl (by first | assumption) (by rfl)) rfl (yP_up (show d + 7 ≤ d + 9 by omega) (qa_116 A58 (zc_116 kk hk).1.1 (by rw [(zc_116 kk hk).1.2]; decide) (fun h59 F59 A59 M59 => ?_) ))
  have C59 := MvC.cost M59 C58.1 C58.2
  have L59 := L58.mv M59 A58.ge
  obtain ⟨B59, D59⟩ := B58.keep M59 D58 A58.ge
  obtain ⟨gt59, p59⟩ := B59.cell (fun c z => z.o)
  obtain ⟨gs59, o59⟩ := A59.cell (fun c z => z.o)
  refine yK_lit (w := .double (FP.ddiv (FP.i2d 10) (FP.i2d 1))) (by rw [(zc_116 kk hk).1.2, (zc_116 kk hk).2]) ?_
  refine yK_v rfl ?_
  refine ys_f 1033 r_286_1030 rfl ?_
  refine ys_f 1034 r_286_1033 rfl ?_
  refine yP_top (w := 0) (by decide +kernel) ?_
  refine ys_f 1037 r_286_1034 rfl ?_
  refine ys_f 1039 r_286_1037 rfl ?_
  refine ys_f 1040 r_286_1039 rfl ?_
  refine ys_call (lv2 := [(0, _), (1, _)]) r_286_1040 rfl rfl (by decide) (xcan_0 rfl rfl (by first | assumption) (by rfl)) rfl (yP_up (show d + 7 ≤ d + 9 by omega) (qa_112 A59 (by rw [zc_112 kk hk]) (fun h60 F60 A60 M60 => ?_) ))
  have C60 := MvC.cost M60 C59.1 C59.2
  have L60 := L59.mv M60 A59.ge
  obtain ⟨B60, D60⟩ := B59.keep M60 D59 A59.ge
  obtain ⟨gt60, p60⟩ := B60.cell (fun c z => z.o)
  obtain ⟨gs60, o60⟩ := A60.cell (fun c z => z.o)
  refine yK_int ((congrArg Prod.snd (zc_112 kk hk))) ?_
  refine yK_v rfl ?_
  refine ys_f 1045 r_286_1043 rfl ?_
  refine ys_f 1047 r_286_1045 rfl ?_
  refine ys_f 1048 r_286_1047 rfl ?_
  refine ys_f 1053 r_286_1048 (congrArg (fun z => some (z, _)) (if_pos rfl)) ?_
  exact yP_lv [(0, .ref 12), (1, .ref b), (3, .int ox), (4, .int nw), (6, .int (zA kk)), (7, .ref zb)] rfl ⟨rfl, rfl, rfl, rfl, rfl, rfl, trivial⟩ (k _ _ _ _ _ _ (A60.imp (fun c hc => hc.up (by omega) (by omega))) B60 D60 L60 ⟨by omega, by omega⟩)

end UV
