/-! the law: the third contest to its end; the first one restored -/
section UV
variable {S : XSc} {d b zb : Nat} {h : XH} {F Fy : Nat → Prop} {Q : XO → XH → Prop} {Gx Hx Sx : Nat → Int32} {cx Bx : Nat} {Ex Fx : Int32} {Ux : Nat → Int32} {nw ox : Int32} {kk : Nat} {H : Nat → Int32} {ch : Nat} {Bu : Nat → Int32} {ea fa : Int32}
theorem lw_u5  (hk : kk < 64) (A : AtC h zb F (Ca 80 (z7T (zA kk)) H zN ch false (-1) (-1) 0 Bu)) (X : AtC h b Fy (Ca Bx Gx Hx Sx cx true Ex Fx 0 Ux)) (D : ∀ c, F c → Fy c → False) (L : Lo h) (C : h.2.2.1 ≤ 7050 ∧ h.2.2.2 ≤ 60300) (k : ∀ h2 F2 Fy2 H2 ch2 Bu2, AtC h2 zb F2 (Ca 100 (gAsk (z11T (zA kk)) (noG (z11T (zA kk))) 3) H2 zN ch2 false (-1) (-1) 0 Bu2) → AtC h2 b Fy2 (Ca Bx Gx Hx Sx cx true Ex Fx 0 Ux) → (∀ c, F2 c → Fy2 c → False) → Lo h2 → (h2.2.2.1 ≤ 7100 ∧ h2.2.2.2 ≤ 60600) → yP S (d + 10) 286 1238 [(0, .ref 12), (1, .ref b), (3, .int ox), (4, .int nw), (6, .int (zA kk)), (7, .ref zb)] [] h2 Q) : yP S (d + 10) 286 1053 [(0, .ref 12), (1, .ref b), (3, .int ox), (4, .int nw), (6, .int (zA kk)), (7, .ref zb)] [] h Q := by
  obtain ⟨gs, o0⟩ := A.cell (fun c z => z.o)
  obtain ⟨gt, p0⟩ := X.cell (fun c z => z.o)
  refine ys_f 1055 r_286_1053 rfl ?_
  refine ys_f 1056 r_286_1055 rfl ?_
  refine ys_f 1057 r_286_1056 rfl ?_
  refine ys_f 1058 r_286_1057 rfl ?_
  refine ys_f 1061 r_286_1058 rfl ?_
  refine ys_f 1062 r_286_1061 rfl ?_
  refine ys_f 1064 r_286_1062 rfl ?_
  refine ys_call (lv2 := [(0, _), (1, _), (2, _), (3, _), (4, _), (5, _), (6, _)]) r_286_1064 rfl rfl (by decide) (xcan_0 rfl rfl (by first | assumption) (by rfl)) rfl (yP_up (show d + 7 ≤ d + 9 by omega) (qa_86 A (by omega) (fun z => absurd ((zb_7 kk hk).1.1.symm.trans z) (by decide)) (fun z => absurd ((zb_7 kk hk).1.1.symm.trans z) (by decide)) (fun z => absurd ((zb_7 kk hk).1.1.symm.trans z) (by decide)) (fun z => absurd ((zb_7 kk hk).1.1.symm.trans z) (by decide)) (fun z => absurd ((zb_7 kk hk).1.1.symm.trans z) (by decide)) (fun z41 h41 F41 A41 M41 => ?_) ))
  have C41 := MvC.cost M41 C.1 C.2
  have L41 := L.mv M41 A.ge
  obtain ⟨B41, D41⟩ := X.keep M41 D A.ge
  obtain ⟨gt41, p41⟩ := B41.cell (fun c z => z.o)
  have A41b := A41.imp (fun c hc => (show Ca _ (gBet (z7T (zA kk)) 2 0 0 0 999 1 20) _ _ _ _ _ _ _ _ c by have e := (zb_7 kk hk).1.2; rw [e.1, e.2] at hc; exact hc))
  obtain ⟨H41, c41, A41f⟩ := A41b.fg
  obtain ⟨gs41, o41⟩ := A41.cell (fun c z => z.o)
  refine yK_int ((zb_7 kk hk).2) ?_
  refine yK_v rfl ?_
  refine ys_f 1069 r_286_1067 rfl ?_
  refine ys_f 1072 r_286_1069 rfl ?_
  refine ys_f 1074 r_286_1072 rfl ?_
  refine ys_f 1075 r_286_1074 rfl ?_
  refine ys_f 1076 r_286_1075 rfl ?_
  refine ys_f 1077 r_286_1076 rfl ?_
  refine ys_f 1078 r_286_1077 rfl ?_
  refine ys_f 1080 r_286_1078 rfl ?_
  refine ys_f 1081 r_286_1080 rfl ?_
  refine ys_call (lv2 := [(0, _), (1, _), (2, _), (3, _), (4, _), (5, _), (6, _)]) r_286_1081 rfl rfl (by decide) (xcan_0 rfl rfl (by first | assumption) (by rfl)) rfl (yP_up (show d + 7 ≤ d + 9 by omega) (qa_86 A41f (by omega) (fun z => absurd ((zb_8 kk hk).1.1.symm.trans z) (by decide)) (fun z => absurd ((zb_8 kk hk).1.1.symm.trans z) (by decide)) (fun z => absurd ((zb_8 kk hk).1.1.symm.trans z) (by decide)) (fun z => absurd ((zb_8 kk hk).1.1.symm.trans z) (by decide)) (fun z => absurd ((zb_8 kk hk).1.1.symm.trans z) (by decide)) (fun z42 h42 F42 A42 M42 => ?_) ))
  have C42 := MvC.cost M42 C41.1 C41.2
  have L42 := L41.mv M42 A41f.ge
  obtain ⟨B42, D42⟩ := B41.keep M42 D41 A41f.ge
  obtain ⟨gt42, p42⟩ := B42.cell (fun c z => z.o)
  have A42b := A42.imp (fun c hc => (show Ca _ (z9T (zA kk)) _ _ _ _ _ _ _ _ c by have e := (zb_8 kk hk).1.2; rw [e.1, e.2] at hc; exact hc.cong (zr_9 kk hk)))
  obtain ⟨H42, c42, A42f⟩ := A42b.fg
  obtain ⟨gs42, o42⟩ := A42.cell (fun c z => z.o)
  refine yK_int ((zb_8 kk hk).2) ?_
  refine yK_v rfl ?_
  refine ys_f 1086 r_286_1084 rfl ?_
  refine ys_f 1089 r_286_1086 rfl ?_
  refine ys_f 1091 r_286_1089 rfl ?_
  refine ys_f 1092 r_286_1091 rfl ?_
  refine ys_call (lv2 := [(0, _), (1, _)]) r_286_1092 rfl rfl (by decide) (xcan_0 rfl rfl (by first | assumption) (by rfl)) rfl (yP_up (show d + 7 ≤ d + 9 by omega) (qa_89 A42f (by omega) (fun z => absurd (((zl_9 kk hk).1).symm.trans z) (by decide)) (fun z => absurd (((zl_9 kk hk).1).symm.trans z) (by decide)) (fun z43 h43 F43 A43 M43 => ?_) ))
  have C43 := MvC.cost M43 C42.1 C42.2
  have L43 := L42.mv M43 A42f.ge
  obtain ⟨B43, D43⟩ := B42.keep M43 D42 A42f.ge
  obtain ⟨gt43, p43⟩ := B43.cell (fun c z => z.o)
  have A43b := A43.imp (fun c hc => (show Ca _ (z10T (zA kk)) _ _ _ _ _ _ _ _ c by have e := zn_9 kk hk; rw [e.1] at hc; have hc2 : Ca _ (xw (wd1 (z9T (zA kk)) 2 0 (mnG (z9T (zA kk)) 0)) 17 1) _ _ _ _ _ _ _ _ c := hc; rw [e.2] at hc2; exact hc2.cong (zr_10 kk hk)))
  obtain ⟨H43, c43, A43f⟩ := A43b.fg
  obtain ⟨gs43, o43⟩ := A43.cell (fun c z => z.o)
  refine yK_int ((zl_9 kk hk).2) ?_
  refine yK_v rfl ?_
  refine ys_f 1096 r_286_1095 rfl ?_
  refine ys_f 1099 r_286_1096 rfl ?_
  refine ys_f 1101 r_286_1099 rfl ?_
  refine ys_f 1102 r_286_1101 rfl ?_
  refine ys_call (lv2 := [(0, _), (1, _)]) r_286_1102 rfl rfl (by decide) (xcan_0 rfl rfl (by first | assumption) (by rfl)) rfl (yP_up (show d + 7 ≤ d + 9 by omega) (qa_91 A43f (by rw [zd_91 kk hk]) (fun h44 F44 A44 M44 => ?_) ))
  have C44 := MvC.cost M44 C43.1 C43.2
  have L44 := L43.mv M44 A43f.ge
  obtain ⟨B44, D44⟩ := B43.keep M44 D43 A43f.ge
  obtain ⟨gt44, p44⟩ := B44.cell (fun c z => z.o)
  obtain ⟨gs44, o44⟩ := A44.cell (fun c z => z.o)
  refine yK_int ((congrArg Prod.snd (zd_91 kk hk))) ?_
  refine yK_v rfl ?_
  refine ys_f 1108 r_286_1105 rfl ?_
  refine ys_f 1111 r_286_1108 rfl ?_
  refine ys_f 1113 r_286_1111 rfl ?_
  refine ys_f 1114 r_286_1113 rfl ?_
  refine ys_f 1115 r_286_1114 rfl ?_
  refine ys_call (lv2 := [(0, _), (1, _), (2, _)]) r_286_1115 rfl rfl (by decide) (xcan_0 rfl rfl (by first | assumption) (by rfl)) rfl (yP_up (show d + 7 ≤ d + 9 by omega) (qa_100 A44 (by rw [zd_100 kk hk]) (fun h45 F45 A45 M45 => ?_) ))
  have C45 := MvC.cost M45 C44.1 C44.2
  have L45 := L44.mv M45 A44.ge
  obtain ⟨B45, D45⟩ := B44.keep M45 D44 A44.ge
  obtain ⟨gt45, p45⟩ := B45.cell (fun c z => z.o)
  obtain ⟨gs45, o45⟩ := A45.cell (fun c z => z.o)
  refine yK_int ((congrArg Prod.snd (zd_100 kk hk))) ?_
  refine yK_v rfl ?_
  refine ys_f 1121 r_286_1118 rfl ?_
  refine ys_f 1123 r_286_1121 rfl ?_
  refine ys_f 1124 r_286_1123 rfl ?_
  refine ys_f 1125 r_286_1124 rfl ?_
  refine ys_f 1126 r_286_1125 rfl ?_
  refine ys_f 1127 r_286_1126 rfl ?_
  refine ys_f 1128 r_286_1127 rfl ?_
  refine ys_f 1129 r_286_1128 rfl ?_
  refine ys_call (lv2 := [(0, _), (1, _), (2, _), (3, _), (4, _), (5, _), (6, _)]) r_286_1129 rfl rfl (by decide) (xcan_3 rfl rfl) rfl (yP_up (show d + 8 ≤ d + 9 by omega) (la_164 A45 (by omega) (fun z => absurd ((zb_9 kk hk).symm.trans z) (by decide)) (fun z => absurd ((zb_9 kk hk).symm.trans z) (by decide)) (fun z => absurd ((zb_9 kk hk).symm.trans z) (by decide)) (fun z46 h46 F46 A46 M46 => ?_) (fun z => absurd ((zb_9 kk hk).symm.trans z) (by decide)) (fun z => absurd ((zb_9 kk hk).symm.trans z) (by decide))))
  have C46 := MvC.cost M46 C45.1 C45.2
  have L46 := L45.mv M46 A45.ge
  obtain ⟨B46, D46⟩ := B45.keep M46 D45 A45.ge
  obtain ⟨gt46, p46⟩ := B46.cell (fun c z => z.o)
  obtain ⟨gs46, o46⟩ := A46.cell (fun c z => z.o)
  refine yK_v rfl ?_
  refine ys_f 1134 r_286_1132 rfl ?_
  refine ys_f 1137 r_286_1134 rfl ?_
  refine ys_f 1139 r_286_1137 rfl ?_
  refine ys_f 1140 r_286_1139 rfl ?_
  refine ys_f 1141 r_286_1140 rfl ?_
  refine ys_call (lv2 := [(0, _), (1, _), (2, _)]) r_286_1141 rfl rfl (by decide) (xcan_3 rfl rfl) rfl (yP_up (show d + 8 ≤ d + 9 by omega) (la_163_4 A46 (by omega) (fun z => absurd ((zl_10 kk hk).symm.trans z) (by decide)) (fun z47 h47 F47 A47 M47 => ?_) (fun z => absurd ((zl_10 kk hk).symm.trans z) (by decide))))
  have C47 := MvC.cost M47 C46.1 C46.2
  have L47 := L46.mv M47 A46.ge
  obtain ⟨B47, D47⟩ := B46.keep M47 D46 A46.ge
  obtain ⟨gt47, p47⟩ := B47.cell (fun c z => z.o)
  obtain ⟨gs47, o47⟩ := A47.cell (fun c z => z.o)
  refine yK_v rfl ?_
  refine ys_f 1147 r_286_1144 rfl ?_
  refine ys_f 1150 r_286_1147 rfl ?_
  refine ys_f 1152 r_286_1150 rfl ?_
  refine ys_f 1154 r_286_1152 rfl ?_
  refine ys_call (lv2 := [(0, _), (1, _)]) r_286_1154 rfl rfl (by decide) (xcan_0 rfl rfl (by first | assumption) (by rfl)) rfl (yP_up (show d + 7 ≤ d + 9 by omega) (qa_87 A47 (by omega) (fun z => absurd (((zs_10 kk hk).1).symm.trans z) (by decide)) (fun z => absurd (((zs_10 kk hk).1).symm.trans z) (by decide)) (fun z48 h48 F48 A48 M48 => ?_) ))
  have C48 := MvC.cost M48 C47.1 C47.2
  have L48 := L47.mv M48 A47.ge
  obtain ⟨B48, D48⟩ := B47.keep M48 D47 A47.ge
  obtain ⟨gt48, p48⟩ := B48.cell (fun c z => z.o)
  have A48b := A48.imp (fun c hc => (show Ca _ (z11T (zA kk)) _ _ _ _ _ _ _ _ c by have e := zn_10 kk hk; rw [e.1, e.2.1, e.2.2] at hc; exact hc.cong (zr_11 kk hk)))
  obtain ⟨H48, c48, A48f⟩ := A48b.fg
  obtain ⟨gs48, o48⟩ := A48.cell (fun c z => z.o)
  refine yK_int ((zs_10 kk hk).2) ?_
  refine yK_v rfl ?_
  refine ys_f 1160 r_286_1157 rfl ?_
  refine ys_f 1162 r_286_1160 rfl ?_
  refine ys_f 1163 r_286_1162 rfl ?_
  refine ys_call (lv2 := [(0, _), (1, _)]) r_286_1163 rfl rfl (by decide) (xcan_0 rfl rfl (by first | assumption) (by rfl)) rfl (yP_up (show d + 7 ≤ d + 9 by omega) (qa_115 A48f (by rw [ze_115 kk hk]) (fun h49 F49 A49 M49 => ?_) ))
  have C49 := MvC.cost M49 C48.1 C48.2
  have L49 := L48.mv M49 A48f.ge
  obtain ⟨B49, D49⟩ := B48.keep M49 D48 A48f.ge
  obtain ⟨gt49, p49⟩ := B49.cell (fun c z => z.o)
  obtain ⟨gs49, o49⟩ := A49.cell (fun c z => z.o)
  refine yK_int ((congrArg Prod.snd (ze_115 kk hk))) ?_
  refine yK_v rfl ?_
  refine ys_f 1169 r_286_1166 rfl ?_
  refine ys_f 1172 r_286_1169 rfl ?_
  refine ys_f 1174 r_286_1172 rfl ?_
  refine ys_call (lv2 := [(0, _)]) r_286_1174 rfl rfl (by decide) (xcan_0 rfl rfl (by first | assumption) (by rfl)) rfl (yP_up (show d + 7 ≤ d + 9 by omega) (qa_93 A49  (fun h50 F50 A50 M50 => ?_) ))
  have C50 := MvC.cost M50 C49.1 C49.2
  have L50 := L49.mv M50 A49.ge
  obtain ⟨B50, D50⟩ := B49.keep M50 D49 A49.ge
  obtain ⟨gt50, p50⟩ := B50.cell (fun c z => z.o)
  obtain ⟨gs50, o50⟩ := A50.cell (fun c z => z.o)
  refine yK_int (ze_93 kk hk) ?_
  refine yK_v rfl ?_
  refine ys_f 1179 r_286_1177 rfl ?_
  refine ys_f 1182 r_286_1179 rfl ?_
  refine ys_f 1184 r_286_1182 rfl ?_
  refine ys_f 1186 r_286_1184 rfl ?_
  refine ys_call (lv2 := [(0, _), (1, _)]) r_286_1186 rfl rfl (by decide) (xcan_0 rfl rfl (by first | assumption) (by rfl)) rfl (yP_up (show d + 7 ≤ d + 9 by omega) (qa_121 A50 (by rw [ze_121 kk hk]) (fun h51 F51 A51 M51 => ?_) ))
  have C51 := MvC.cost M51 C50.1 C50.2
  have L51 := L50.mv M51 A50.ge
  obtain ⟨B51, D51⟩ := B50.keep M51 D50 A50.ge
  obtain ⟨gt51, p51⟩ := B51.cell (fun c z => z.o)
  obtain ⟨gs51, o51⟩ := A51.cell (fun c z => z.o)
  refine yK_int ((congrArg Prod.snd (ze_121 kk hk))) ?_
  refine yK_v rfl ?_
  refine ys_f 1190 r_286_1189 rfl ?_
  refine ys_f 1193 r_286_1190 rfl ?_
  refine ys_f 1195 r_286_1193 rfl ?_
  refine ys_f 1197 r_286_1195 rfl ?_
  refine ys_call (lv2 := [(0, _), (1, _)]) r_286_1197 rfl rfl (by decide) (xcan_0 rfl rfl (by first | assumption) (by rfl)) rfl (yP_up (show d + 7 ≤ d + 9 by omega) (qa_122 A51 (by rw [ze_122 kk hk]) (fun h52 F52 A52 M52 => ?_) ))
  have C52 := MvC.cost M52 C51.1 C51.2
  have L52 := L51.mv M52 A51.ge
  obtain ⟨B52, D52⟩ := B51.keep M52 D51 A51.ge
  obtain ⟨gt52, p52⟩ := B52.cell (fun c z => z.o)
  obtain ⟨gs52, o52⟩ := A52.cell (fun c z => z.o)
  refine yK_int ((congrArg Prod.snd (ze_122 kk hk))) ?_
  refine yK_v rfl ?_
  refine ys_f 1201 r_286_1200 rfl ?_
  refine ys_f 1204 r_286_1201 rfl ?_
  refine ys_f 1206 r_286_1204 rfl ?_
  refine ys_f 1207 r_286_1206 rfl ?_
  refine ys_call (lv2 := [(0, _), (1, _)]) r_286_1207 rfl rfl (by decide) (xcan_0 rfl rfl (by first | assumption) (by rfl)) rfl (yP_up (show d + 7 ≤ d + 9 by omega) (qa_85 A52 (by omega) (fun z => absurd (((za_11 kk hk).1).symm.trans z) (by decide)) (fun z => absurd (((za_11 kk hk).1).symm.trans z) (by decide)) (fun z53 h53 F53 A53 M53 => ?_) ))
  have C53 := MvC.cost M53 C52.1 C52.2
  have L53 := L52.mv M53 A52.ge
  obtain ⟨B53, D53⟩ := B52.keep M53 D52 A52.ge
  obtain ⟨gt53, p53⟩ := B53.cell (fun c z => z.o)
  obtain ⟨H53, c53, A53f⟩ := A53.fg
  obtain ⟨gs53, o53⟩ := A53.cell (fun c z => z.o)
  refine yK_int ((za_11 kk hk).2) ?_
  refine yK_v rfl ?_
  refine ys_f 1211 r_286_1210 rfl ?_
  refine ys_f 1214 r_286_1211 rfl ?_
  refine ys_f 1216 r_286_1214 rfl ?_
  refine ys_f 1217 r_286_1216 rfl ?_
  refine ys_call (lv2 := [(0, _), (1, _)]) r_286_1217 rfl rfl (by decide) (xcan_0 rfl rfl (by first | assumption) (by rfl)) rfl (yP_up (show d + 7 ≤ d + 9 by omega) (qa_112 A53f (by rw [zf_112 kk hk]) (fun h54 F54 A54 M54 => ?_) ))
  have C54 := MvC.cost M54 C53.1 C53.2
  have L54 := L53.mv M54 A53f.ge
  obtain ⟨B54, D54⟩ := B53.keep M54 D53 A53f.ge
  obtain ⟨gt54, p54⟩ := B54.cell (fun c z => z.o)
  obtain ⟨gs54, o54⟩ := A54.cell (fun c z => z.o)
  refine yK_int ((congrArg Prod.snd (zf_112 kk hk))) ?_
  refine yK_v rfl ?_
  refine ys_f 1222 r_286_1220 rfl ?_
  refine ys_f 1224 r_286_1222 rfl ?_
  refine ys_f 1225 r_286_1224 rfl ?_
  refine ys_f 1228 r_286_1225 (congrArg (fun z => some (z, _)) (if_pos rfl)) ?_
  refine ys_f 1230 r_286_1228 rfl ?_
  refine ys_call (lv2 := [(0, _)]) r_286_1230 rfl rfl (by decide) (xcan_0 rfl rfl (by first | assumption) (by rfl)) rfl (yP_up (show d + 7 ≤ d + 9 by omega) (qa_124 A54  (fun h55 F55 A55 M55 => ?_) ))
  have C55 := MvC.cost M55 C54.1 C54.2
  have L55 := L54.mv M55 A54.ge
  obtain ⟨B55, D55⟩ := B54.keep M55 D54 A54.ge
  obtain ⟨gt55, p55⟩ := B55.cell (fun c z => z.o)
  obtain ⟨gs55, o55⟩ := A55.cell (fun c z => z.o)
  refine yK_v rfl ?_
  refine ys_f 1238 r_286_1233 rfl ?_
  exact yP_lv [(0, .ref 12), (1, .ref b), (3, .int ox), (4, .int nw), (6, .int (zA kk)), (7, .ref zb)] rfl ⟨rfl, rfl, rfl, rfl, rfl, rfl, trivial⟩ (k _ _ _ _ _ _ (A55.imp (fun c hc => hc.up (by omega) (by omega))) B55 D55 L55 ⟨by omega, by omega⟩)

theorem lw_u6  {G : Nat → Int32} (hw : nw = Dg G) (A : AtC h b F (Ca Bx G Hx G cx true Ex Fx 0 Ux)) (C : h.2.2.1 ≤ 7100 ∧ h.2.2.2 ≤ 60600) (hQ : ∀ h2 : XH, h2.2.2.1 ≤ 8000 → h2.2.2.2 ≤ 80000 → Q (.inl (some (.int 1))) h2) : yP S (d + 10) 286 1238 [(0, .ref 12), (1, .ref b), (3, .int (G 1)), (4, .int nw)] [] h Q := by
  obtain ⟨gs, o0⟩ := A.cell (fun c z => z.o)
  refine ys_f 1239 r_286_1238 rfl ?_
  refine ys_call (lv2 := [(0, _)]) r_286_1239 rfl rfl (by decide) (xcan_0 rfl rfl (by first | assumption) (by rfl)) rfl (yP_up (show d + 7 ≤ d + 9 by omega) (qa_134 A rfl (fun h41 F41 A41 M41 => ?_) ))
  have C41 := MvC.cost M41 C.1 C.2
  obtain ⟨gs41, o41⟩ := A41.cell (fun c z => z.o)
  refine yK_v rfl ?_
  refine ys_f 1243 r_286_1242 rfl ?_
  refine ys_f 1246 r_286_1243 (congrArg (fun z => some (z, _)) (if_pos rfl)) ?_
  refine ys_f 1247 r_286_1246 rfl ?_
  refine ys_call (lv2 := [(0, _)]) r_286_1247 rfl rfl (by decide) (xcan_1 rfl) rfl (lb_165 A41  (fun v42 e42 h42 F42 A42 M42 => ?_) )
  have C42 := MvC.cost M42 C41.1 C41.2
  obtain ⟨gs42, o42⟩ := A42.cell (fun c z => z.o)
  refine yK_v rfl ?_
  refine ys_f 1252 r_286_1250 rfl ?_
  refine ys_if 1255 1259 r_286_1252 rfl (fun hq => ?_) (fun hq => ?_)
  · refine ys_f 1256 r_286_1255 rfl ?_
    refine ys_f 1260 r_286_1256 rfl ?_
    refine ys_ret r_286_1260 rfl ?_
    exact hQ _ (by omega) (by omega)
  · exact (hq (e42.trans hw.symm)).elim

end UV
