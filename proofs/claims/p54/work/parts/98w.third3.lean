/-! the law: the due line -/
theorem ny_292 {S : XSc} {d : Nat} {h : XH} {Q : XO → XH → Prop} {sb k : Nat} (hs : sb + 1 = 72 + k) (h72 : 72 ≤ sb) (hk : h.2.1 = some k) (o0 : h.1 sb = some (.inr (10, [.null, .int 0, .int 0, .int 0]))) (k9 : ∀ h2, YbX sb (sb + 2) h2 0 zN → (∀ x, x < sb → h2.1 x = h.1 x) → h2.2.2.1 ≤ h.2.2.1 + 1 → h2.2.2.2 ≤ h.2.2.2 + 16 → Q (.inl none) h2) : yP S (d + 1) 292 0 [(0, .ref sb)] [] h Q := by
  refine ys_f 1 r_292_0 rfl ?_
  refine ys_f 3 r_292_1 rfl ?_
  refine ys_call (lv2 := [(0, _), (1, _)]) r_292_3 rfl rfl (by decide) (xcan_2 rfl) rfl ?_
  refine ys_f 1 r_298_0 rfl ?_
  refine ys_obj 4 r_298_1 rfl rfl rfl ?_
  refine ys_gst 7 r_298_4 rfl ?_
  refine ys_f 10 r_298_7 rfl ?_
  refine ys_f 11 r_298_10 rfl ?_
  refine ys_f 12 r_298_11 rfl ?_
  refine ys_newB 14 r_298_12 rfl (N := 16) rfl hk (by omega) (fun f1 o1 y1 => ?_)
  refine ys_putC 17 r_298_14 rfl ((y1 sb (by omega)).trans o0) (by rfl) (by rfl) (fun f2 x2 y2 => ?_)
  refine ys_f 18 r_298_17 rfl ?_
  refine ys_f 19 r_298_18 rfl ?_
  refine ys_putC 22 r_298_19 rfl x2 (by decide +kernel) (by rfl) (fun f3 x3 y3 => ?_)
  refine ys_f 38 r_298_22 rfl ?_
  refine ys_ret r_298_38 rfl ?_
  refine yK_0 rfl ?_
  refine ys_ret r_292_6 rfl ?_
  refine k9 (f3, _) ⟨16, sb + 1, fun _ => 0, k + 1, ⟨0, x3.trans (by rw [← hs]; rfl)⟩, ?_, fun j hj => absurd hj (Nat.not_lt_zero _), fun j hj => ⟨0, by omega, rfl⟩, ⟨by omega, by omega, Or.inl rfl⟩, ⟨by omega, Or.inl rfl, by omega⟩, rfl, by omega, by omega⟩ (fun x hx => (y3 x (by omega)).trans ((y2 x (by omega)).trans (y1 x (by omega)))) (Nat.le_refl _) (Nat.le_refl _)
  rw [hs]
  exact (o1.fr (y2 _ (by omega))).fr (y3 _ (by omega))
def Bw (sb : Nat) (h0 h : XH) (s : XL) (m x : Nat) : Prop := YbX sb (sb + 2) h s.1 s.2 ∧ s.1 ≤ m ∧ (∀ c, c < sb → h.1 c = h0.1 c) ∧ (h.2.2.1 ≤ h0.2.2.1 + x ∧ h.2.2.2 ≤ h0.2.2.2 + 220 * x) ∧ Lo h ∧ 72 ≤ sb
theorem Bw.go {sb m x l : Nat} {h0 h h2 : XH} {s t : XL} (W : Bw sb h0 h s m x) (h1 : YbX sb (sb + 2) h2 t.1 t.2) (h3 : t.1 ≤ s.1 + l) (w : Yw sb (sb + 2) h h2 1 220) : Bw sb h0 h2 t (m + l) (x + 1) := by
  obtain ⟨w1, w2, w3, w4, w5, w6⟩ := W
  exact ⟨h1, by omega, fun c hc => (w.1 c (by omega) (by omega) (by omega)).trans (w3 c hc), ⟨by have := w.2.1; omega, by have := w.2.2; omega⟩, w.lo w5 w6 (by omega), w6⟩
theorem bw_294 {S : XSc} {d sb m x : Nat} {h0 h : XH} {Q : XO → XH → Prop} {s : XL} (W : Bw sb h0 h s m x) {v : Nat} (hm : m + 4 ≤ 100) (hv : v < 1000) (k : ∀ h2, Bw sb h0 h2 (wrN v s) (m + 4) (x + 1) → Q (.inl (some (.ref sb))) h2) : yP S (d + 5) 294 0 [(0, .ref sb), (1, .int (nI v))] [] h Q :=
  yP_up (show d + 4 ≤ d + 5 by omega) (ey_294 W.1 (by have := W.2.1; omega) hv (fun h2 X2 w2 => k h2 (W.go X2 (by rw [show (wrN v (s.1, s.2)) = wrN v s from rfl]; have := wrD_1 (v := v) (k := ndg v) (s := s); have := ndg_le4 v; unfold wrN; omega) w2)))
theorem bw_317_21 {S : XSc} {d sb m x : Nat} {h0 h : XH} {Q : XO → XH → Prop} {s : XL} (W : Bw sb h0 h s m x) (hm : m + 7 ≤ 100) (k : ∀ h2, Bw sb h0 h2 (psT s (xfB 21)) (m + 7) (x + 1) → Q (.inl (some (.ref sb))) h2) : yP S (d + 5) 317 0 [(0, .ref sb), (1, .ref 47)] [] h Q :=
  la_317_21 W.2.2.2.2.1 W.1 (by have := W.2.1; omega) (fun h2 X2 w2 => k h2 (W.go X2 (by rw [show psT (s.1, s.2) (xfB 21) = psT s (xfB 21) from rfl, psT_1]; exact Nat.le_refl _) w2))
theorem bw_317_22 {S : XSc} {d sb m x : Nat} {h0 h : XH} {Q : XO → XH → Prop} {s : XL} (W : Bw sb h0 h s m x) (hm : m + 1 ≤ 100) (k : ∀ h2, Bw sb h0 h2 (psT s (xfB 22)) (m + 1) (x + 1) → Q (.inl (some (.ref sb))) h2) : yP S (d + 5) 317 0 [(0, .ref sb), (1, .ref 48)] [] h Q :=
  la_317_22 W.2.2.2.2.1 W.1 (by have := W.2.1; omega) (fun h2 X2 w2 => k h2 (W.go X2 (by rw [show psT (s.1, s.2) (xfB 22) = psT s (xfB 22) from rfl, psT_1]; exact Nat.le_refl _) w2))
theorem bw_317_23 {S : XSc} {d sb m x : Nat} {h0 h : XH} {Q : XO → XH → Prop} {s : XL} (W : Bw sb h0 h s m x) (hm : m + 5 ≤ 100) (k : ∀ h2, Bw sb h0 h2 (psT s (xfB 23)) (m + 5) (x + 1) → Q (.inl (some (.ref sb))) h2) : yP S (d + 5) 317 0 [(0, .ref sb), (1, .ref 49)] [] h Q :=
  la_317_23 W.2.2.2.2.1 W.1 (by have := W.2.1; omega) (fun h2 X2 w2 => k h2 (W.go X2 (by rw [show psT (s.1, s.2) (xfB 23) = psT s (xfB 23) from rfl, psT_1]; exact Nat.le_refl _) w2))
theorem bw_317_24 {S : XSc} {d sb m x : Nat} {h0 h : XH} {Q : XO → XH → Prop} {s : XL} (W : Bw sb h0 h s m x) (hm : m + 5 ≤ 100) (k : ∀ h2, Bw sb h0 h2 (psT s (xfB 24)) (m + 5) (x + 1) → Q (.inl (some (.ref sb))) h2) : yP S (d + 5) 317 0 [(0, .ref sb), (1, .ref 50)] [] h Q :=
  la_317_24 W.2.2.2.2.1 W.1 (by have := W.2.1; omega) (fun h2 X2 w2 => k h2 (W.go X2 (by rw [show psT (s.1, s.2) (xfB 24) = psT s (xfB 24) from rfl, psT_1]; exact Nat.le_refl _) w2))
theorem bw_317_25 {S : XSc} {d sb m x : Nat} {h0 h : XH} {Q : XO → XH → Prop} {s : XL} (W : Bw sb h0 h s m x) (hm : m + 2 ≤ 100) (k : ∀ h2, Bw sb h0 h2 (psT s (xfB 25)) (m + 2) (x + 1) → Q (.inl (some (.ref sb))) h2) : yP S (d + 5) 317 0 [(0, .ref sb), (1, .ref 51)] [] h Q :=
  la_317_25 W.2.2.2.2.1 W.1 (by have := W.2.1; omega) (fun h2 X2 w2 => k h2 (W.go X2 (by rw [show psT (s.1, s.2) (xfB 25) = psT s (xfB 25) from rfl, psT_1]; exact Nat.le_refl _) w2))
section UV
variable {S : XSc} {d b zb : Nat} {h : XH} {F Fy : Nat → Prop} {Q : XO → XH → Prop} {Gx Hx Sx : Nat → Int32} {cx Bx : Nat} {Ex Fx : Int32} {Ux : Nat → Int32} {nw ox : Int32} {kk : Nat} {H : Nat → Int32} {ch : Nat} {Bu : Nat → Int32} {ea fa : Int32}
theorem lw_due  {k0 : Nat} (hk : kk < 64) (L : Lo h) (hn : h.2.1 = some k0) (k : ∀ h2 t v2, (72 + k0 ≤ t ∧ 72 + k0 ≤ v2) → h2.1 t = some (.inr (11, [.ref v2, .int 0, .int 0, .int 0])) → IA h2.1 4 v2 (zLine (100 + kk)).1 (zLine (100 + kk)).2 → (∀ j, j < (zLine (100 + kk)).1 → ∃ x, x < 128 ∧ (zLine (100 + kk)).2 j = nI x) → (∀ c, c < 72 + k0 → h2.1 c = h.1 c) → (∃ k2, h2.2.1 = some k2 ∧ k0 ≤ k2 ∧ t < 72 + k2 ∧ v2 < 72 + k2) → h2.2.2.1 ≤ h.2.2.1 + 30 → h2.2.2.2 ≤ h.2.2.2 + 6000 → yP S (d + 10) 286 826 [(0, .ref 12), (1, .ref b), (3, .int ox), (4, .int nw), (6, .int (zA kk)), (7, .ref zb)] (.ref t :: .int (nI 40) :: .ref zb :: []) h2 Q) : yP S (d + 10) 286 736 [(0, .ref 12), (1, .ref b), (3, .int ox), (4, .int nw), (6, .int (zA kk)), (7, .ref zb)] [.int (nI 40), .ref zb] h Q := by
  obtain ⟨sb, hsb⟩ : ∃ sb, sb = 72 + k0 := ⟨_, rfl⟩
  refine ys_newO 739 r_286_736 rfl rfl hn (fun h7 o7 y7 e7 => ?_)
  rw [← hsb] at o7 y7 ⊢
  refine ys_f 740 r_286_739 rfl ?_
  refine ys_call (lv2 := [(0, _)]) r_286_740 rfl rfl (by decide) (xcan_2 rfl) rfl (yP_up (show d + 1 ≤ d + 9 by omega) (ny_292 (sb := sb) (k := k0 + 1) (by omega) (by omega) (congrArg Prod.fst e7) o7 (fun h8 X8 y8 c8 d8 => ?_)))
  have W8 : Bw sb h h8 ((0, zN) : XL) 0 2 := ⟨X8, Nat.le_refl _, fun c hc => (y8 c hc).trans (y7 c (by omega)), ⟨by have : h7.2.2.1 = h.2.2.1 + 1 := congrArg (fun z => z.2.1) e7; omega, by have : h7.2.2.2 = h.2.2.2 + 4 := congrArg (fun z => z.2.2) e7; omega⟩, fun a ha => (y8 a (by omega)).trans ((y7 a (by omega)).trans (L a ha)), by omega⟩
  obtain ⟨fs8, o8⟩ := W8.1.o
  refine yK_0 rfl ?_
  refine ys_ldc 745 r_286_743 rfl ?_
  refine ys_call (lv2 := [(0, _), (1, _)]) r_286_745 rfl rfl (by decide) (xcan_0 rfl rfl (by first | assumption) (by rfl)) rfl (yP_up (show d + 5 ≤ d + 9 by omega) (bw_317_21 W8 (by omega) (fun h42 W42 => ?_)))
  obtain ⟨fs42, o42⟩ := W42.1.o
  refine yK_v rfl ?_
  refine ys_f 750 r_286_748 rfl ?_
  refine ys_call (lv2 := [(0, _), (1, _)]) r_286_750 rfl rfl (by decide) (xcan_0 rfl rfl (by first | assumption) (by rfl)) rfl (yP_lv [(0, .ref sb), (1, .int (nI (100 + kk)))] rfl ⟨rfl, rfl, trivial⟩ (yP_up (show d + 5 ≤ d + 9 by omega) (bw_294 W42 (by omega) (by omega) (fun h43 W43 => ?_))))
  obtain ⟨fs43, o43⟩ := W43.1.o
  refine yK_v rfl ?_
  refine ys_ldc 755 r_286_753 rfl ?_
  refine ys_call (lv2 := [(0, _), (1, _)]) r_286_755 rfl rfl (by decide) (xcan_0 rfl rfl (by first | assumption) (by rfl)) rfl (yP_up (show d + 5 ≤ d + 9 by omega) (bw_317_22 W43 (by omega) (fun h44 W44 => ?_)))
  obtain ⟨fs44, o44⟩ := W44.1.o
  refine yK_v rfl ?_
  refine ys_f 760 r_286_758 rfl ?_
  refine ys_f 762 r_286_760 rfl ?_
  refine ys_f 763 r_286_762 rfl ?_
  refine ys_call (lv2 := [(0, _), (1, _)]) r_286_763 rfl rfl (by decide) (xcan_0 rfl rfl (by first | assumption) (by rfl)) rfl (yP_lv [(0, .ref sb), (1, .int (nI ((100 + kk) + 20)))] rfl ⟨rfl, (congrArg (fun z => some (Value.int z)) (nI_addE rfl (nI_k 20))), trivial⟩ (yP_up (show d + 5 ≤ d + 9 by omega) (bw_294 W44 (by omega) (by omega) (fun h45 W45 => ?_))))
  obtain ⟨fs45, o45⟩ := W45.1.o
  refine yK_v rfl ?_
  refine ys_ldc 768 r_286_766 rfl ?_
  refine ys_call (lv2 := [(0, _), (1, _)]) r_286_768 rfl rfl (by decide) (xcan_0 rfl rfl (by first | assumption) (by rfl)) rfl (yP_up (show d + 5 ≤ d + 9 by omega) (bw_317_23 W45 (by omega) (fun h46 W46 => ?_)))
  obtain ⟨fs46, o46⟩ := W46.1.o
  refine yK_v rfl ?_
  refine ys_f 773 r_286_771 rfl ?_
  refine ys_f 775 r_286_773 rfl ?_
  refine ys_f 776 r_286_775 rfl ?_
  refine ys_call (lv2 := [(0, _), (1, _)]) r_286_776 rfl rfl (by decide) (xcan_0 rfl rfl (by first | assumption) (by rfl)) rfl (yP_lv [(0, .ref sb), (1, .int (nI ((100 + kk) + 10)))] rfl ⟨rfl, (congrArg (fun z => some (Value.int z)) (nI_addE rfl (nI_k 10))), trivial⟩ (yP_up (show d + 5 ≤ d + 9 by omega) (bw_294 W46 (by omega) (by omega) (fun h47 W47 => ?_))))
  obtain ⟨fs47, o47⟩ := W47.1.o
  refine yK_v rfl ?_
  refine ys_ldc 781 r_286_779 rfl ?_
  refine ys_call (lv2 := [(0, _), (1, _)]) r_286_781 rfl rfl (by decide) (xcan_0 rfl rfl (by first | assumption) (by rfl)) rfl (yP_up (show d + 5 ≤ d + 9 by omega) (bw_317_22 W47 (by omega) (fun h48 W48 => ?_)))
  obtain ⟨fs48, o48⟩ := W48.1.o
  refine yK_v rfl ?_
  refine ys_f 786 r_286_784 rfl ?_
  refine ys_f 788 r_286_786 rfl ?_
  refine ys_f 789 r_286_788 rfl ?_
  refine ys_call (lv2 := [(0, _), (1, _)]) r_286_789 rfl rfl (by decide) (xcan_0 rfl rfl (by first | assumption) (by rfl)) rfl (yP_lv [(0, .ref sb), (1, .int (nI ((100 + kk) + 50)))] rfl ⟨rfl, (congrArg (fun z => some (Value.int z)) (nI_addE rfl (nI_k 50))), trivial⟩ (yP_up (show d + 5 ≤ d + 9 by omega) (bw_294 W48 (by omega) (by omega) (fun h49 W49 => ?_))))
  obtain ⟨fs49, o49⟩ := W49.1.o
  refine yK_v rfl ?_
  refine ys_ldc 794 r_286_792 rfl ?_
  refine ys_call (lv2 := [(0, _), (1, _)]) r_286_794 rfl rfl (by decide) (xcan_0 rfl rfl (by first | assumption) (by rfl)) rfl (yP_up (show d + 5 ≤ d + 9 by omega) (bw_317_24 W49 (by omega) (fun h50 W50 => ?_)))
  obtain ⟨fs50, o50⟩ := W50.1.o
  refine yK_v rfl ?_
  refine ys_f 799 r_286_797 rfl ?_
  refine ys_f 801 r_286_799 rfl ?_
  refine ys_f 802 r_286_801 rfl ?_
  refine ys_call (lv2 := [(0, _), (1, _)]) r_286_802 rfl rfl (by decide) (xcan_0 rfl rfl (by first | assumption) (by rfl)) rfl (yP_lv [(0, .ref sb), (1, .int (nI ((100 + kk) + 40)))] rfl ⟨rfl, (congrArg (fun z => some (Value.int z)) (nI_addE rfl (nI_k 40))), trivial⟩ (yP_up (show d + 5 ≤ d + 9 by omega) (bw_294 W50 (by omega) (by omega) (fun h51 W51 => ?_))))
  obtain ⟨fs51, o51⟩ := W51.1.o
  refine yK_v rfl ?_
  refine ys_ldc 807 r_286_805 rfl ?_
  refine ys_call (lv2 := [(0, _), (1, _)]) r_286_807 rfl rfl (by decide) (xcan_0 rfl rfl (by first | assumption) (by rfl)) rfl (yP_up (show d + 5 ≤ d + 9 by omega) (bw_317_22 W51 (by omega) (fun h52 W52 => ?_)))
  obtain ⟨fs52, o52⟩ := W52.1.o
  refine yK_v rfl ?_
  refine ys_f 812 r_286_810 rfl ?_
  refine ys_f 814 r_286_812 rfl ?_
  refine ys_f 815 r_286_814 rfl ?_
  refine ys_call (lv2 := [(0, _), (1, _)]) r_286_815 rfl rfl (by decide) (xcan_0 rfl rfl (by first | assumption) (by rfl)) rfl (yP_lv [(0, .ref sb), (1, .int (nI ((100 + kk) + 45)))] rfl ⟨rfl, (congrArg (fun z => some (Value.int z)) (nI_addE rfl (nI_k 45))), trivial⟩ (yP_up (show d + 5 ≤ d + 9 by omega) (bw_294 W52 (by omega) (by omega) (fun h53 W53 => ?_))))
  obtain ⟨fs53, o53⟩ := W53.1.o
  refine yK_v rfl ?_
  refine ys_ldc 820 r_286_818 rfl ?_
  refine ys_call (lv2 := [(0, _), (1, _)]) r_286_820 rfl rfl (by decide) (xcan_0 rfl rfl (by first | assumption) (by rfl)) rfl (yP_up (show d + 5 ≤ d + 9 by omega) (bw_317_25 W53 (by omega) (fun h54 W54 => ?_)))
  obtain ⟨fs54, o54⟩ := W54.1.o
  refine yK_v rfl ?_
  refine ys_call (lv2 := [(0, _)]) r_286_823 rfl rfl (by decide) (xcan_0 rfl rfl (by first | assumption) (by rfl)) rfl (yP_up (show d + 6 ≤ d + 9 by omega) (la_318 W54.1 (by have e := (z_line kk hk).2.1; have e2 : (psT (wrN (100 + kk + 45) _) (xfB 25)).1 = 40 := e; omega) (fun h90 k90 q1 q2 q3 q4 q5 q6 q7 q8 q9 => ?_)))
  have W9 := W54
  refine yK_v rfl ?_
  refine k _ (72 + k90) (72 + (k90 + 1)) ⟨by omega, by omega⟩ q3 q4 q5 (fun c hc => (q6 c (by omega)).trans (W9.2.2.1 c (by omega))) ⟨k90 + 2, q7, by omega, by omega, by omega⟩ (by have := W9.2.2.2.1.1; omega) (by have := W9.2.2.2.1.2; omega)

end UV
