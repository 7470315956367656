/-! the law's start -/
theorem sim0 {f : Nat → Option XE} {a : Nat} (hB : BdP f a 0 0 0 0 0 (fun _ => 0) (fun _ => 0) (fun _ => 0) (fun _ => ((0, (0, (false, (fun _ => 0, fun _ => 0)))) : XPl)) (fun _ => ((0, (0, (0, fun _ => ((0, (0, (0, (0, 0)))) : XEst)))) : XQu)) (fun i => i) (fun _ i => i)) : Sim f a (fun _ => 0) 0 := by
  refine ⟨fun _ => 0, 0, 0, 0, 0, 0, 0, _, _, _, _, _, _, _, hB, ⟨⟨⟨rfl, Nat.zero_le _⟩, ⟨rfl, Nat.zero_le _⟩, fun i hi => ⟨rfl, Nat.zero_le _⟩⟩, ⟨rfl, rfl, rfl⟩, fun j hj => absurd hj (by omega), fun i hi => absurd hi (Nat.not_lt_zero _), fun i hi => absurd hi (Nat.not_lt_zero _), fun i h1 h2 => ⟨rfl, rfl, fun j hj => ⟨rfl, rfl⟩⟩⟩, ⟨rfl, fun i hi => absurd hi (Nat.not_lt_zero _), ?_, fun j hj => ⟨rfl, rfl⟩, fun i hi => absurd hi (Nat.not_lt_zero _)⟩, Nat.le_refl _, Nat.le_refl _⟩
  decide
theorem n_83 {S : XSc} {d : Nat} {h : XH} {Q : XO → XH → Prop} (o0 : h.1 32 = some (.inr (8, [.null, .null, .null, .null, .null, .null, .int 0, .int 0, .int 0]))) (hk : Nw h 1 1 9) (k9 : ∀ h2, h2.1 32 = some (.inr (8, [.ref 33, .ref 102, .ref 171, .ref 794, .ref 804, .ref 807, .int 0, .int (-1), .int (-1)])) → (BdP h2.1 33 0 0 0 0 0 (fun _ => 0) (fun _ => 0) (fun _ => 0) (fun _ => ((0, (0, (false, (fun _ => 0, fun _ => 0)))) : XPl)) (fun _ => ((0, (0, (0, fun _ => ((0, (0, (0, (0, 0)))) : XEst)))) : XQu)) (fun i => i) (fun _ i => i)) → (BdP h2.1 102 0 0 0 0 0 (fun _ => 0) (fun _ => 0) (fun _ => 0) (fun _ => ((0, (0, (false, (fun _ => 0, fun _ => 0)))) : XPl)) (fun _ => ((0, (0, (0, fun _ => ((0, (0, (0, (0, 0)))) : XEst)))) : XQu)) (fun i => i) (fun _ i => i)) → h2.1 171 = some (.inr (5, [.ref 172, .int 0, .int 0])) → RA h2.1 11 172 9 (fun j => 173 + 69 * j) → (∀ j, j < 9 → (BdP h2.1 (173 + 69 * j) 0 0 0 0 0 (fun _ => 0) (fun _ => 0) (fun _ => 0) (fun _ => ((0, (0, (false, (fun _ => 0, fun _ => 0)))) : XPl)) (fun _ => ((0, (0, (0, fun _ => ((0, (0, (0, (0, 0)))) : XEst)))) : XQu)) (fun i => i) (fun _ i => i))) → CvP h2.1 794 (fun _ _ => 0) (fun _ => 0) (fun _ => 0) → TxP h2.1 804 0 0 0 (fun _ => 0) (fun _ => 0) → h2.1 807 = some (.inr (10, [.ref 808, .int 0, .int 0, .int 0])) → IA h2.1 4 808 16 (fun _ => 0) → Nw h2 777 777 4418 → Q (.inl none) h2) : xP S (d + 5) 83 0 [(0, .ref 32)] [] h Q := by
  refine xs_f 1 r_83_0 rfl ?_
  refine xs_obj 4 r_83_1 rfl rfl rfl ?_
  refine xs_f 5 r_83_4 rfl ?_
  refine xs_newO 8 r_83_5 rfl rfl hk (fun h1 o1 y1 n1 => ?_)
  refine xs_f 9 r_83_8 rfl ?_
  refine xs_call (lv2 := [(0, _)]) r_83_9 rfl rfl (by decide) (xcan_2 rfl) rfl (n_10 (a := 33) (by omega) n1 o1 (fun h2 b2 y2 n2 => ?_))
  refine xK_0 rfl ?_
  refine xs_putC 15 r_83_12 rfl ((y2 32 (by omega)).trans ((y1 32 (by omega)).trans o0)) (by rfl) (by rfl) (fun f3 x3 y3 => ?_)
  refine xs_f 16 r_83_15 rfl ?_
  refine xs_newO 19 r_83_16 rfl rfl (show Nw (f3, h2.2) _ _ _ from n2) (fun h4 o4 y4 n4 => ?_)
  refine xs_f 20 r_83_19 rfl ?_
  refine xs_call (lv2 := [(0, _)]) r_83_20 rfl rfl (by decide) (xcan_2 rfl) rfl (n_10 (a := 102) (by omega) n4 o4 (fun h5 b5 y5 n5 => ?_))
  refine xK_0 rfl ?_
  refine xs_putC 26 r_83_23 rfl ((y5 32 (by omega)).trans ((y4 32 (by omega)).trans x3)) (by rfl) (by rfl) (fun f6 x6 y6 => ?_)
  refine xs_f 27 r_83_26 rfl ?_
  refine xs_newO 30 r_83_27 rfl rfl (show Nw (f6, h5.2) _ _ _ from n5) (fun h7 o7 y7 n7 => ?_)
  refine xs_f 31 r_83_30 rfl ?_
  refine xs_call (lv2 := [(0, _)]) r_83_31 rfl rfl (by decide) (xcan_2 rfl) rfl (n_64 (a := 171) (by omega) n7 o7 (fun h8 b8 r8 s8 y8 n8 => ?_))
  refine xK_0 rfl ?_
  refine xs_putC 37 r_83_34 rfl ((y8 32 (by omega)).trans ((y7 32 (by omega)).trans x6)) (by rfl) (by rfl) (fun f9 x9 y9 => ?_)
  refine xs_f 38 r_83_37 rfl ?_
  refine xs_newO 41 r_83_38 rfl rfl (show Nw (f9, h8.2) _ _ _ from n8) (fun h10 o10 y10 n10 => ?_)
  refine xs_f 42 r_83_41 rfl ?_
  refine xs_call (lv2 := [(0, _)]) r_83_42 rfl rfl (by decide) (xcan_2 rfl) rfl (n_48 (a := 794) (by omega) n10 o10 (fun h11 b11 y11 n11 => ?_))
  refine xK_0 rfl ?_
  refine xs_putC 48 r_83_45 rfl ((y11 32 (by omega)).trans ((y10 32 (by omega)).trans x9)) (by rfl) (by rfl) (fun f12 x12 y12 => ?_)
  refine xs_f 49 r_83_48 rfl ?_
  refine xs_newO 52 r_83_49 rfl rfl (show Nw (f12, h11.2) _ _ _ from n11) (fun h13 o13 y13 n13 => ?_)
  refine xs_f 53 r_83_52 rfl ?_
  refine xs_call (lv2 := [(0, _)]) r_83_53 rfl rfl (by decide) (xcan_2 rfl) rfl (n_35 (a := 804) (by omega) n13 o13 (fun h14 b14 y14 n14 => ?_))
  refine xK_0 rfl ?_
  refine xs_putC 59 r_83_56 rfl ((y14 32 (by omega)).trans ((y13 32 (by omega)).trans x12)) (by rfl) (by rfl) (fun f15 x15 y15 => ?_)
  refine xs_f 60 r_83_59 rfl ?_
  refine xs_newO 63 r_83_60 rfl rfl (show Nw (f15, h14.2) _ _ _ from n14) (fun h16 o16 y16 n16 => ?_)
  refine xs_f 64 r_83_63 rfl ?_
  refine xs_call (lv2 := [(0, _)]) r_83_64 rfl rfl (by decide) (xcan_2 rfl) rfl (n_292 (a := 807) (by omega) n16 o16 (fun h17 b17 r17 y17 n17 => ?_))
  refine xK_0 rfl ?_
  refine xs_putC 70 r_83_67 rfl ((y17 32 (by omega)).trans ((y16 32 (by omega)).trans x15)) (by rfl) (by rfl) (fun f18 x18 y18 => ?_)
  refine xs_f 71 r_83_70 rfl ?_
  refine xs_f 72 r_83_71 rfl ?_
  refine xs_putC 75 r_83_72 rfl x18 (by decide +kernel) (by rfl) (fun f19 x19 y19 => ?_)
  refine xs_f 76 r_83_75 rfl ?_
  refine xs_f 77 r_83_76 rfl ?_
  refine xs_putC 80 r_83_77 rfl x19 (by rfl) (by rfl) (fun f20 x20 y20 => ?_)
  refine xs_f 81 r_83_80 rfl ?_
  refine xs_f 82 r_83_81 rfl ?_
  refine xs_putC 85 r_83_82 rfl x20 (by rfl) (by rfl) (fun f21 x21 y21 => ?_)
  refine xs_ret r_83_85 rfl ?_
  exact k9 (f21, h17.2) (x21.trans rfl) (b2.fr (fun x z1 z2 => ((y21 x (by omega)).trans ((y20 x (by omega)).trans ((y19 x (by omega)).trans ((y18 x (by omega)).trans ((y17 x (by omega)).trans ((y16 x (by omega)).trans ((y15 x (by omega)).trans ((y14 x (by omega)).trans ((y13 x (by omega)).trans ((y12 x (by omega)).trans ((y11 x (by omega)).trans ((y10 x (by omega)).trans ((y9 x (by omega)).trans ((y8 x (by omega)).trans ((y7 x (by omega)).trans ((y6 x (by omega)).trans ((y5 x (by omega)).trans ((y4 x (by omega)).trans (y3 x (by omega)))))))))))))))))))))) (b5.fr (fun x z1 z2 => ((y21 x (by omega)).trans ((y20 x (by omega)).trans ((y19 x (by omega)).trans ((y18 x (by omega)).trans ((y17 x (by omega)).trans ((y16 x (by omega)).trans ((y15 x (by omega)).trans ((y14 x (by omega)).trans ((y13 x (by omega)).trans ((y12 x (by omega)).trans ((y11 x (by omega)).trans ((y10 x (by omega)).trans ((y9 x (by omega)).trans ((y8 x (by omega)).trans ((y7 x (by omega)).trans (y6 x (by omega))))))))))))))))))) (((y21 171 (by omega)).trans ((y20 171 (by omega)).trans ((y19 171 (by omega)).trans ((y18 171 (by omega)).trans ((y17 171 (by omega)).trans ((y16 171 (by omega)).trans ((y15 171 (by omega)).trans ((y14 171 (by omega)).trans ((y13 171 (by omega)).trans ((y12 171 (by omega)).trans ((y11 171 (by omega)).trans ((y10 171 (by omega)).trans (y9 171 (by omega)))))))))))))).trans b8) (r8.fr ((y21 172 (by omega)).trans ((y20 172 (by omega)).trans ((y19 172 (by omega)).trans ((y18 172 (by omega)).trans ((y17 172 (by omega)).trans ((y16 172 (by omega)).trans ((y15 172 (by omega)).trans ((y14 172 (by omega)).trans ((y13 172 (by omega)).trans ((y12 172 (by omega)).trans ((y11 172 (by omega)).trans ((y10 172 (by omega)).trans (y9 172 (by omega))))))))))))))) (fun j hj => (s8 j hj).fr (fun x z1 z2 => ((y21 x (by omega)).trans ((y20 x (by omega)).trans ((y19 x (by omega)).trans ((y18 x (by omega)).trans ((y17 x (by omega)).trans ((y16 x (by omega)).trans ((y15 x (by omega)).trans ((y14 x (by omega)).trans ((y13 x (by omega)).trans ((y12 x (by omega)).trans ((y11 x (by omega)).trans ((y10 x (by omega)).trans (y9 x (by omega)))))))))))))))) (b11.fr (fun x z1 z2 => ((y21 x (by omega)).trans ((y20 x (by omega)).trans ((y19 x (by omega)).trans ((y18 x (by omega)).trans ((y17 x (by omega)).trans ((y16 x (by omega)).trans ((y15 x (by omega)).trans ((y14 x (by omega)).trans ((y13 x (by omega)).trans (y12 x (by omega))))))))))))) (b14.fr (fun x z1 z2 => ((y21 x (by omega)).trans ((y20 x (by omega)).trans ((y19 x (by omega)).trans ((y18 x (by omega)).trans ((y17 x (by omega)).trans ((y16 x (by omega)).trans (y15 x (by omega)))))))))) (((y21 807 (by omega)).trans ((y20 807 (by omega)).trans ((y19 807 (by omega)).trans (y18 807 (by omega))))).trans b17) (r17.fr ((y21 808 (by omega)).trans ((y20 808 (by omega)).trans ((y19 808 (by omega)).trans (y18 808 (by omega)))))) ((show Nw (f21, h17.2) _ _ _ from n17).cv (by omega) (by omega) (by omega))
