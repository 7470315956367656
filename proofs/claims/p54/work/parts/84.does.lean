/-! a command's fault, and what it does -/
def nmC (c : Nat) (nu : Nat → Int32) (i : Nat) : Int32 := if i < c then nu i else 0
def fltC (np no : Nat) (pl : Nat → XPl) (q : Nat → XQu) (x : Nat → Int32) (j : Nat) : Nat := match j with
  | 0 => joinF np
  | 1 => askF no (x 0)
  | 2 => betF np no pl q (x 0) (x 1) (x 2) (x 3) (x 4) (x 5)
  | 3 => settF no (x 0)
  | 4 => postF no
  | _ => leavF np pl (x 0)
def gC (G : Nat → Int32) (np no sc : Nat) (mn : Nat → Nat) (x : Nat → Int32) (j : Nat) : Nat → Int32 := match j with
  | 0 => xw (xw G (10 + np) 100) 0 (nI (np + 1))
  | 1 => gAsk G no (x 0)
  | 2 => gBet G (x 0).toNatClampNeg (pla (gQ G mn) no (x 1)) (mn (pla (gQ G mn) no (x 1))) (x 2) (x 3) (x 4) (x 5)
  | 3 => gSet G no (mn 0) sc (x 0)
  | 4 => gPst G no
  | _ => xw (wdN G (x 0).toNatClampNeg mn no) (15 + (x 0).toNatClampNeg) 1
theorem betF_ok {np no : Nat} {pl : Nat → XPl} {q : Nat → XQu} {p n lo hi2 c sk : Int32} (h0 : betF np no pl q p n lo hi2 c sk = 0) : isPl np p ∧ pla q no n < no ∧ betOK lo hi2 c sk ∧ rnk (q (pla q no n)).2.2.2 (q (pla q no n)).2.2.1 p = (q (pla q no n)).2.2.1 := by
  unfold betF at h0
  split at h0
  · rename_i z1
    split at h0
    · rename_i z2
      split at h0
      · rename_i z3
        refine ⟨z1, z2, z3, ?_⟩
        cases hw : (pl p.toNatClampNeg).2.2.1
        · rw [hw, cond_false] at h0
          split at h0
          · omega
          · rename_i z4
            have := fnd_le (fun i => decide (((q (pla q no n)).2.2.2 i).1 = p)) (q (pla q no n)).2.2.1
            have z5 : ¬ rnk (q (pla q no n)).2.2.2 (q (pla q no n)).2.2.1 p < (q (pla q no n)).2.2.1 := fun z => z4 (Or.inl z)
            unfold rnk at z5 ⊢
            omega
        · rw [hw, cond_true] at h0; omega
      · omega
    · omega
  · omega
theorem e_145_0 {S : XSc} {d : Nat} {h : XH} {Q : XO → XH → Prop} {np no : Nat} {nn : Int32} {sc : Nat} {ho : Int32} {TS TH tr : Nat → Int32} {pl : Nat → XPl} {q : Nat → XQu} {s : Nat → Nat} {R : Nat → Nat → Nat} {i1 i2 i3 : Int32} (o0 : h.1 32 = some (.inr (8, [.ref 33, .ref 102, .ref 171, .ref 794, .ref 804, .ref 807, .int i1, .int i2, .int i3]))) (hB : BdP h.1 33 np no nn sc ho TS TH tr pl q s R) {n p c : Nat} {Bu nu : Nat → Int32} (hT : TxP h.1 804 n p c Bu nu) (k : Q (.inl (some (.ref (fltC np no pl q (nmC c nu) 0)))) h) : xP S (d + 3) 145 0 [(0, .ref 32), (1, .ref 6)] [] h Q := by
  have b1 := hB.1
  have t1 := hT.1
  refine xs_gst 3 r_145_0 rfl ?_
  refine xs_f 4 r_145_3 rfl ?_
  refine xs_ext 7 r_145_4 rfl rfl rfl rfl ?_
  refine xs_ald 8 0 r_145_7 (fun _ _ => rfl) rfl rfl rfl (j := 0) rfl (xarr_r rfl rfl) rfl (by omega) (by omega) rfl ?_
  refine xs_f 44 r_145_8 rfl ?_
  refine xs_f 45 r_145_44 rfl ?_
  refine xs_get 48 r_145_45 rfl rfl (by first | assumption | exact xup_s | exact o0 | exact b1 | exact t1 | (refine (xup_n (by omega)).trans ?_; first | assumption | exact xup_s | exact o0 | exact b1 | exact t1) | (refine (xup_n (by omega)).trans ((xup_n (by omega)).trans ?_); first | assumption | exact xup_s | exact o0 | exact b1 | exact t1) | (refine (xup_n (by omega)).trans ((xup_n (by omega)).trans ((xup_n (by omega)).trans ?_)); first | assumption | exact xup_s | exact o0 | exact b1 | exact t1)) (by rfl) ?_
  refine xs_call (lv2 := [(0, _)]) r_145_48 rfl rfl (by decide) (xcan_0 rfl rfl (by first | assumption | exact xup_s | exact o0 | exact b1 | exact t1 | (refine (xup_n (by omega)).trans ?_; first | assumption | exact xup_s | exact o0 | exact b1 | exact t1) | (refine (xup_n (by omega)).trans ((xup_n (by omega)).trans ?_); first | assumption | exact xup_s | exact o0 | exact b1 | exact t1) | (refine (xup_n (by omega)).trans ((xup_n (by omega)).trans ((xup_n (by omega)).trans ?_)); first | assumption | exact xup_s | exact o0 | exact b1 | exact t1)) (by rfl)) rfl (c_14 hB (by omega) ?_)
  refine xK_v rfl ?_
  refine xs_ret r_145_51 rfl ?_
  exact k

theorem e_145_1 {S : XSc} {d : Nat} {h : XH} {Q : XO → XH → Prop} {np no : Nat} {nn : Int32} {sc : Nat} {ho : Int32} {TS TH tr : Nat → Int32} {pl : Nat → XPl} {q : Nat → XQu} {s : Nat → Nat} {R : Nat → Nat → Nat} {i1 i2 i3 : Int32} (o0 : h.1 32 = some (.inr (8, [.ref 33, .ref 102, .ref 171, .ref 794, .ref 804, .ref 807, .int i1, .int i2, .int i3]))) (hB : BdP h.1 33 np no nn sc ho TS TH tr pl q s R) {n p c : Nat} {Bu nu : Nat → Int32} (hT : TxP h.1 804 n p c Bu nu) (k : Q (.inl (some (.ref (fltC np no pl q (nmC c nu) 1)))) h) : xP S (d + 3) 145 0 [(0, .ref 32), (1, .ref 7)] [] h Q := by
  have b1 := hB.1
  have t1 := hT.1
  refine xs_gst 3 r_145_0 rfl ?_
  refine xs_f 4 r_145_3 rfl ?_
  refine xs_ext 7 r_145_4 rfl rfl rfl rfl ?_
  refine xs_ald 8 0 r_145_7 (fun _ _ => rfl) rfl rfl rfl (j := 1) rfl (xarr_r rfl rfl) rfl (by omega) (by omega) rfl ?_
  refine xs_f 52 r_145_8 rfl ?_
  refine xs_f 53 r_145_52 rfl ?_
  refine xs_get 56 r_145_53 rfl rfl (by first | assumption | exact xup_s | exact o0 | exact b1 | exact t1 | (refine (xup_n (by omega)).trans ?_; first | assumption | exact xup_s | exact o0 | exact b1 | exact t1) | (refine (xup_n (by omega)).trans ((xup_n (by omega)).trans ?_); first | assumption | exact xup_s | exact o0 | exact b1 | exact t1) | (refine (xup_n (by omega)).trans ((xup_n (by omega)).trans ((xup_n (by omega)).trans ?_)); first | assumption | exact xup_s | exact o0 | exact b1 | exact t1)) (by rfl) ?_
  refine xs_f 57 r_145_56 rfl ?_
  refine xs_get 60 r_145_57 rfl rfl (by first | assumption | exact xup_s | exact o0 | exact b1 | exact t1 | (refine (xup_n (by omega)).trans ?_; first | assumption | exact xup_s | exact o0 | exact b1 | exact t1) | (refine (xup_n (by omega)).trans ((xup_n (by omega)).trans ?_); first | assumption | exact xup_s | exact o0 | exact b1 | exact t1) | (refine (xup_n (by omega)).trans ((xup_n (by omega)).trans ((xup_n (by omega)).trans ?_)); first | assumption | exact xup_s | exact o0 | exact b1 | exact t1)) (by rfl) ?_
  refine xs_f 61 r_145_60 rfl ?_
  refine xs_call (lv2 := [(0, _), (1, _)]) r_145_61 rfl rfl (by decide) (xcan_0 rfl rfl (by first | assumption | exact xup_s | exact o0 | exact b1 | exact t1 | (refine (xup_n (by omega)).trans ?_; first | assumption | exact xup_s | exact o0 | exact b1 | exact t1) | (refine (xup_n (by omega)).trans ((xup_n (by omega)).trans ?_); first | assumption | exact xup_s | exact o0 | exact b1 | exact t1) | (refine (xup_n (by omega)).trans ((xup_n (by omega)).trans ((xup_n (by omega)).trans ?_)); first | assumption | exact xup_s | exact o0 | exact b1 | exact t1)) (by rfl)) rfl (e_41 hT (by omega) (i := 0) (by omega) ?_)
  refine xK_v rfl ?_
  refine xs_call (lv2 := [(0, _), (1, _)]) r_145_64 rfl rfl (by decide) (xcan_0 rfl rfl (by first | assumption | exact xup_s | exact o0 | exact b1 | exact t1 | (refine (xup_n (by omega)).trans ?_; first | assumption | exact xup_s | exact o0 | exact b1 | exact t1) | (refine (xup_n (by omega)).trans ((xup_n (by omega)).trans ?_); first | assumption | exact xup_s | exact o0 | exact b1 | exact t1) | (refine (xup_n (by omega)).trans ((xup_n (by omega)).trans ((xup_n (by omega)).trans ?_)); first | assumption | exact xup_s | exact o0 | exact b1 | exact t1)) (by rfl)) rfl (c_16 hB (by omega) ?_)
  refine xK_v rfl ?_
  refine xs_ret r_145_67 rfl ?_
  exact k

theorem e_145_2 {S : XSc} {d : Nat} {h : XH} {Q : XO → XH → Prop} {np no : Nat} {nn : Int32} {sc : Nat} {ho : Int32} {TS TH tr : Nat → Int32} {pl : Nat → XPl} {q : Nat → XQu} {s : Nat → Nat} {R : Nat → Nat → Nat} {i1 i2 i3 : Int32} (o0 : h.1 32 = some (.inr (8, [.ref 33, .ref 102, .ref 171, .ref 794, .ref 804, .ref 807, .int i1, .int i2, .int i3]))) (hB : BdP h.1 33 np no nn sc ho TS TH tr pl q s R) {n p c : Nat} {Bu nu : Nat → Int32} (hT : TxP h.1 804 n p c Bu nu) (k : Q (.inl (some (.ref (fltC np no pl q (nmC c nu) 2)))) h) : xP S (d + 3) 145 0 [(0, .ref 32), (1, .ref 8)] [] h Q := by
  have b1 := hB.1
  have t1 := hT.1
  refine xs_gst 3 r_145_0 rfl ?_
  refine xs_f 4 r_145_3 rfl ?_
  refine xs_ext 7 r_145_4 rfl rfl rfl rfl ?_
  refine xs_ald 8 0 r_145_7 (fun _ _ => rfl) rfl rfl rfl (j := 2) rfl (xarr_r rfl rfl) rfl (by omega) (by omega) rfl ?_
  refine xs_f 68 r_145_8 rfl ?_
  refine xs_f 69 r_145_68 rfl ?_
  refine xs_get 72 r_145_69 rfl rfl (by first | assumption | exact xup_s | exact o0 | exact b1 | exact t1 | (refine (xup_n (by omega)).trans ?_; first | assumption | exact xup_s | exact o0 | exact b1 | exact t1) | (refine (xup_n (by omega)).trans ((xup_n (by omega)).trans ?_); first | assumption | exact xup_s | exact o0 | exact b1 | exact t1) | (refine (xup_n (by omega)).trans ((xup_n (by omega)).trans ((xup_n (by omega)).trans ?_)); first | assumption | exact xup_s | exact o0 | exact b1 | exact t1)) (by rfl) ?_
  refine xs_f 73 r_145_72 rfl ?_
  refine xs_get 76 r_145_73 rfl rfl (by first | assumption | exact xup_s | exact o0 | exact b1 | exact t1 | (refine (xup_n (by omega)).trans ?_; first | assumption | exact xup_s | exact o0 | exact b1 | exact t1) | (refine (xup_n (by omega)).trans ((xup_n (by omega)).trans ?_); first | assumption | exact xup_s | exact o0 | exact b1 | exact t1) | (refine (xup_n (by omega)).trans ((xup_n (by omega)).trans ((xup_n (by omega)).trans ?_)); first | assumption | exact xup_s | exact o0 | exact b1 | exact t1)) (by rfl) ?_
  refine xs_f 77 r_145_76 rfl ?_
  refine xs_call (lv2 := [(0, _), (1, _)]) r_145_77 rfl rfl (by decide) (xcan_0 rfl rfl (by first | assumption | exact xup_s | exact o0 | exact b1 | exact t1 | (refine (xup_n (by omega)).trans ?_; first | assumption | exact xup_s | exact o0 | exact b1 | exact t1) | (refine (xup_n (by omega)).trans ((xup_n (by omega)).trans ?_); first | assumption | exact xup_s | exact o0 | exact b1 | exact t1) | (refine (xup_n (by omega)).trans ((xup_n (by omega)).trans ((xup_n (by omega)).trans ?_)); first | assumption | exact xup_s | exact o0 | exact b1 | exact t1)) (by rfl)) rfl (e_41 hT (by omega) (i := 0) (by omega) ?_)
  refine xK_v rfl ?_
  refine xs_f 81 r_145_80 rfl ?_
  refine xs_get 84 r_145_81 rfl rfl (by first | assumption | exact xup_s | exact o0 | exact b1 | exact t1 | (refine (xup_n (by omega)).trans ?_; first | assumption | exact xup_s | exact o0 | exact b1 | exact t1) | (refine (xup_n (by omega)).trans ((xup_n (by omega)).trans ?_); first | assumption | exact xup_s | exact o0 | exact b1 | exact t1) | (refine (xup_n (by omega)).trans ((xup_n (by omega)).trans ((xup_n (by omega)).trans ?_)); first | assumption | exact xup_s | exact o0 | exact b1 | exact t1)) (by rfl) ?_
  refine xs_f 85 r_145_84 rfl ?_
  refine xs_call (lv2 := [(0, _), (1, _)]) r_145_85 rfl rfl (by decide) (xcan_0 rfl rfl (by first | assumption | exact xup_s | exact o0 | exact b1 | exact t1 | (refine (xup_n (by omega)).trans ?_; first | assumption | exact xup_s | exact o0 | exact b1 | exact t1) | (refine (xup_n (by omega)).trans ((xup_n (by omega)).trans ?_); first | assumption | exact xup_s | exact o0 | exact b1 | exact t1) | (refine (xup_n (by omega)).trans ((xup_n (by omega)).trans ((xup_n (by omega)).trans ?_)); first | assumption | exact xup_s | exact o0 | exact b1 | exact t1)) (by rfl)) rfl (e_41 hT (by omega) (i := 1) (by omega) ?_)
  refine xK_v rfl ?_
  refine xs_f 89 r_145_88 rfl ?_
  refine xs_get 92 r_145_89 rfl rfl (by first | assumption | exact xup_s | exact o0 | exact b1 | exact t1 | (refine (xup_n (by omega)).trans ?_; first | assumption | exact xup_s | exact o0 | exact b1 | exact t1) | (refine (xup_n (by omega)).trans ((xup_n (by omega)).trans ?_); first | assumption | exact xup_s | exact o0 | exact b1 | exact t1) | (refine (xup_n (by omega)).trans ((xup_n (by omega)).trans ((xup_n (by omega)).trans ?_)); first | assumption | exact xup_s | exact o0 | exact b1 | exact t1)) (by rfl) ?_
  refine xs_f 93 r_145_92 rfl ?_
  refine xs_call (lv2 := [(0, _), (1, _)]) r_145_93 rfl rfl (by decide) (xcan_0 rfl rfl (by first | assumption | exact xup_s | exact o0 | exact b1 | exact t1 | (refine (xup_n (by omega)).trans ?_; first | assumption | exact xup_s | exact o0 | exact b1 | exact t1) | (refine (xup_n (by omega)).trans ((xup_n (by omega)).trans ?_); first | assumption | exact xup_s | exact o0 | exact b1 | exact t1) | (refine (xup_n (by omega)).trans ((xup_n (by omega)).trans ((xup_n (by omega)).trans ?_)); first | assumption | exact xup_s | exact o0 | exact b1 | exact t1)) (by rfl)) rfl (e_41 hT (by omega) (i := 2) (by omega) ?_)
  refine xK_v rfl ?_
  refine xs_f 97 r_145_96 rfl ?_
  refine xs_get 100 r_145_97 rfl rfl (by first | assumption | exact xup_s | exact o0 | exact b1 | exact t1 | (refine (xup_n (by omega)).trans ?_; first | assumption | exact xup_s | exact o0 | exact b1 | exact t1) | (refine (xup_n (by omega)).trans ((xup_n (by omega)).trans ?_); first | assumption | exact xup_s | exact o0 | exact b1 | exact t1) | (refine (xup_n (by omega)).trans ((xup_n (by omega)).trans ((xup_n (by omega)).trans ?_)); first | assumption | exact xup_s | exact o0 | exact b1 | exact t1)) (by rfl) ?_
  refine xs_f 101 r_145_100 rfl ?_
  refine xs_call (lv2 := [(0, _), (1, _)]) r_145_101 rfl rfl (by decide) (xcan_0 rfl rfl (by first | assumption | exact xup_s | exact o0 | exact b1 | exact t1 | (refine (xup_n (by omega)).trans ?_; first | assumption | exact xup_s | exact o0 | exact b1 | exact t1) | (refine (xup_n (by omega)).trans ((xup_n (by omega)).trans ?_); first | assumption | exact xup_s | exact o0 | exact b1 | exact t1) | (refine (xup_n (by omega)).trans ((xup_n (by omega)).trans ((xup_n (by omega)).trans ?_)); first | assumption | exact xup_s | exact o0 | exact b1 | exact t1)) (by rfl)) rfl (e_41 hT (by omega) (i := 3) (by omega) ?_)
  refine xK_v rfl ?_
  refine xs_f 105 r_145_104 rfl ?_
  refine xs_get 108 r_145_105 rfl rfl (by first | assumption | exact xup_s | exact o0 | exact b1 | exact t1 | (refine (xup_n (by omega)).trans ?_; first | assumption | exact xup_s | exact o0 | exact b1 | exact t1) | (refine (xup_n (by omega)).trans ((xup_n (by omega)).trans ?_); first | assumption | exact xup_s | exact o0 | exact b1 | exact t1) | (refine (xup_n (by omega)).trans ((xup_n (by omega)).trans ((xup_n (by omega)).trans ?_)); first | assumption | exact xup_s | exact o0 | exact b1 | exact t1)) (by rfl) ?_
  refine xs_f 109 r_145_108 rfl ?_
  refine xs_call (lv2 := [(0, _), (1, _)]) r_145_109 rfl rfl (by decide) (xcan_0 rfl rfl (by first | assumption | exact xup_s | exact o0 | exact b1 | exact t1 | (refine (xup_n (by omega)).trans ?_; first | assumption | exact xup_s | exact o0 | exact b1 | exact t1) | (refine (xup_n (by omega)).trans ((xup_n (by omega)).trans ?_); first | assumption | exact xup_s | exact o0 | exact b1 | exact t1) | (refine (xup_n (by omega)).trans ((xup_n (by omega)).trans ((xup_n (by omega)).trans ?_)); first | assumption | exact xup_s | exact o0 | exact b1 | exact t1)) (by rfl)) rfl (e_41 hT (by omega) (i := 4) (by omega) ?_)
  refine xK_v rfl ?_
  refine xs_f 113 r_145_112 rfl ?_
  refine xs_get 116 r_145_113 rfl rfl (by first | assumption | exact xup_s | exact o0 | exact b1 | exact t1 | (refine (xup_n (by omega)).trans ?_; first | assumption | exact xup_s | exact o0 | exact b1 | exact t1) | (refine (xup_n (by omega)).trans ((xup_n (by omega)).trans ?_); first | assumption | exact xup_s | exact o0 | exact b1 | exact t1) | (refine (xup_n (by omega)).trans ((xup_n (by omega)).trans ((xup_n (by omega)).trans ?_)); first | assumption | exact xup_s | exact o0 | exact b1 | exact t1)) (by rfl) ?_
  refine xs_f 117 r_145_116 rfl ?_
  refine xs_call (lv2 := [(0, _), (1, _)]) r_145_117 rfl rfl (by decide) (xcan_0 rfl rfl (by first | assumption | exact xup_s | exact o0 | exact b1 | exact t1 | (refine (xup_n (by omega)).trans ?_; first | assumption | exact xup_s | exact o0 | exact b1 | exact t1) | (refine (xup_n (by omega)).trans ((xup_n (by omega)).trans ?_); first | assumption | exact xup_s | exact o0 | exact b1 | exact t1) | (refine (xup_n (by omega)).trans ((xup_n (by omega)).trans ((xup_n (by omega)).trans ?_)); first | assumption | exact xup_s | exact o0 | exact b1 | exact t1)) (by rfl)) rfl (e_41 hT (by omega) (i := 5) (by omega) ?_)
  refine xK_v rfl ?_
  refine xs_call (lv2 := [(0, _), (1, _), (2, _), (3, _), (4, _), (5, _), (6, _)]) r_145_120 rfl rfl (by decide) (xcan_0 rfl rfl (by first | assumption | exact xup_s | exact o0 | exact b1 | exact t1 | (refine (xup_n (by omega)).trans ?_; first | assumption | exact xup_s | exact o0 | exact b1 | exact t1) | (refine (xup_n (by omega)).trans ((xup_n (by omega)).trans ?_); first | assumption | exact xup_s | exact o0 | exact b1 | exact t1) | (refine (xup_n (by omega)).trans ((xup_n (by omega)).trans ((xup_n (by omega)).trans ?_)); first | assumption | exact xup_s | exact o0 | exact b1 | exact t1)) (by rfl)) rfl (c_18 hB (by omega) ?_)
  refine xK_v rfl ?_
  refine xs_ret r_145_123 rfl ?_
  exact k

theorem e_145_3 {S : XSc} {d : Nat} {h : XH} {Q : XO → XH → Prop} {np no : Nat} {nn : Int32} {sc : Nat} {ho : Int32} {TS TH tr : Nat → Int32} {pl : Nat → XPl} {q : Nat → XQu} {s : Nat → Nat} {R : Nat → Nat → Nat} {i1 i2 i3 : Int32} (o0 : h.1 32 = some (.inr (8, [.ref 33, .ref 102, .ref 171, .ref 794, .ref 804, .ref 807, .int i1, .int i2, .int i3]))) (hB : BdP h.1 33 np no nn sc ho TS TH tr pl q s R) {n p c : Nat} {Bu nu : Nat → Int32} (hT : TxP h.1 804 n p c Bu nu) (k : Q (.inl (some (.ref (fltC np no pl q (nmC c nu) 3)))) h) : xP S (d + 3) 145 0 [(0, .ref 32), (1, .ref 9)] [] h Q := by
  have b1 := hB.1
  have t1 := hT.1
  refine xs_gst 3 r_145_0 rfl ?_
  refine xs_f 4 r_145_3 rfl ?_
  refine xs_ext 7 r_145_4 rfl rfl rfl rfl ?_
  refine xs_ald 8 0 r_145_7 (fun _ _ => rfl) rfl rfl rfl (j := 3) rfl (xarr_r rfl rfl) rfl (by omega) (by omega) rfl ?_
  refine xs_f 124 r_145_8 rfl ?_
  refine xs_f 125 r_145_124 rfl ?_
  refine xs_get 128 r_145_125 rfl rfl (by first | assumption | exact xup_s | exact o0 | exact b1 | exact t1 | (refine (xup_n (by omega)).trans ?_; first | assumption | exact xup_s | exact o0 | exact b1 | exact t1) | (refine (xup_n (by omega)).trans ((xup_n (by omega)).trans ?_); first | assumption | exact xup_s | exact o0 | exact b1 | exact t1) | (refine (xup_n (by omega)).trans ((xup_n (by omega)).trans ((xup_n (by omega)).trans ?_)); first | assumption | exact xup_s | exact o0 | exact b1 | exact t1)) (by rfl) ?_
  refine xs_f 129 r_145_128 rfl ?_
  refine xs_get 132 r_145_129 rfl rfl (by first | assumption | exact xup_s | exact o0 | exact b1 | exact t1 | (refine (xup_n (by omega)).trans ?_; first | assumption | exact xup_s | exact o0 | exact b1 | exact t1) | (refine (xup_n (by omega)).trans ((xup_n (by omega)).trans ?_); first | assumption | exact xup_s | exact o0 | exact b1 | exact t1) | (refine (xup_n (by omega)).trans ((xup_n (by omega)).trans ((xup_n (by omega)).trans ?_)); first | assumption | exact xup_s | exact o0 | exact b1 | exact t1)) (by rfl) ?_
  refine xs_f 133 r_145_132 rfl ?_
  refine xs_call (lv2 := [(0, _), (1, _)]) r_145_133 rfl rfl (by decide) (xcan_0 rfl rfl (by first | assumption | exact xup_s | exact o0 | exact b1 | exact t1 | (refine (xup_n (by omega)).trans ?_; first | assumption | exact xup_s | exact o0 | exact b1 | exact t1) | (refine (xup_n (by omega)).trans ((xup_n (by omega)).trans ?_); first | assumption | exact xup_s | exact o0 | exact b1 | exact t1) | (refine (xup_n (by omega)).trans ((xup_n (by omega)).trans ((xup_n (by omega)).trans ?_)); first | assumption | exact xup_s | exact o0 | exact b1 | exact t1)) (by rfl)) rfl (e_41 hT (by omega) (i := 0) (by omega) ?_)
  refine xK_v rfl ?_
  refine xs_call (lv2 := [(0, _), (1, _)]) r_145_136 rfl rfl (by decide) (xcan_0 rfl rfl (by first | assumption | exact xup_s | exact o0 | exact b1 | exact t1 | (refine (xup_n (by omega)).trans ?_; first | assumption | exact xup_s | exact o0 | exact b1 | exact t1) | (refine (xup_n (by omega)).trans ((xup_n (by omega)).trans ?_); first | assumption | exact xup_s | exact o0 | exact b1 | exact t1) | (refine (xup_n (by omega)).trans ((xup_n (by omega)).trans ((xup_n (by omega)).trans ?_)); first | assumption | exact xup_s | exact o0 | exact b1 | exact t1)) (by rfl)) rfl (c_20 hB (by omega) ?_)
  refine xK_v rfl ?_
  refine xs_ret r_145_139 rfl ?_
  exact k

theorem e_145_4 {S : XSc} {d : Nat} {h : XH} {Q : XO → XH → Prop} {np no : Nat} {nn : Int32} {sc : Nat} {ho : Int32} {TS TH tr : Nat → Int32} {pl : Nat → XPl} {q : Nat → XQu} {s : Nat → Nat} {R : Nat → Nat → Nat} {i1 i2 i3 : Int32} (o0 : h.1 32 = some (.inr (8, [.ref 33, .ref 102, .ref 171, .ref 794, .ref 804, .ref 807, .int i1, .int i2, .int i3]))) (hB : BdP h.1 33 np no nn sc ho TS TH tr pl q s R) {n p c : Nat} {Bu nu : Nat → Int32} (hT : TxP h.1 804 n p c Bu nu) (k : Q (.inl (some (.ref (fltC np no pl q (nmC c nu) 4)))) h) : xP S (d + 3) 145 0 [(0, .ref 32), (1, .ref 10)] [] h Q := by
  have b1 := hB.1
  have t1 := hT.1
  refine xs_gst 3 r_145_0 rfl ?_
  refine xs_f 4 r_145_3 rfl ?_
  refine xs_ext 7 r_145_4 rfl rfl rfl rfl ?_
  refine xs_ald 8 0 r_145_7 (fun _ _ => rfl) rfl rfl rfl (j := 4) rfl (xarr_r rfl rfl) rfl (by omega) (by omega) rfl ?_
  refine xs_f 140 r_145_8 rfl ?_
  refine xs_f 141 r_145_140 rfl ?_
  refine xs_get 144 r_145_141 rfl rfl (by first | assumption | exact xup_s | exact o0 | exact b1 | exact t1 | (refine (xup_n (by omega)).trans ?_; first | assumption | exact xup_s | exact o0 | exact b1 | exact t1) | (refine (xup_n (by omega)).trans ((xup_n (by omega)).trans ?_); first | assumption | exact xup_s | exact o0 | exact b1 | exact t1) | (refine (xup_n (by omega)).trans ((xup_n (by omega)).trans ((xup_n (by omega)).trans ?_)); first | assumption | exact xup_s | exact o0 | exact b1 | exact t1)) (by rfl) ?_
  refine xs_call (lv2 := [(0, _)]) r_145_144 rfl rfl (by decide) (xcan_0 rfl rfl (by first | assumption | exact xup_s | exact o0 | exact b1 | exact t1 | (refine (xup_n (by omega)).trans ?_; first | assumption | exact xup_s | exact o0 | exact b1 | exact t1) | (refine (xup_n (by omega)).trans ((xup_n (by omega)).trans ?_); first | assumption | exact xup_s | exact o0 | exact b1 | exact t1) | (refine (xup_n (by omega)).trans ((xup_n (by omega)).trans ((xup_n (by omega)).trans ?_)); first | assumption | exact xup_s | exact o0 | exact b1 | exact t1)) (by rfl)) rfl (c_25 hB (by omega) ?_)
  refine xK_v rfl ?_
  refine xs_ret r_145_147 rfl ?_
  exact k

theorem e_145_5 {S : XSc} {d : Nat} {h : XH} {Q : XO → XH → Prop} {np no : Nat} {nn : Int32} {sc : Nat} {ho : Int32} {TS TH tr : Nat → Int32} {pl : Nat → XPl} {q : Nat → XQu} {s : Nat → Nat} {R : Nat → Nat → Nat} {i1 i2 i3 : Int32} (o0 : h.1 32 = some (.inr (8, [.ref 33, .ref 102, .ref 171, .ref 794, .ref 804, .ref 807, .int i1, .int i2, .int i3]))) (hB : BdP h.1 33 np no nn sc ho TS TH tr pl q s R) {n p c : Nat} {Bu nu : Nat → Int32} (hT : TxP h.1 804 n p c Bu nu) (k : Q (.inl (some (.ref (fltC np no pl q (nmC c nu) 5)))) h) : xP S (d + 3) 145 0 [(0, .ref 32), (1, .ref 11)] [] h Q := by
  have b1 := hB.1
  have t1 := hT.1
  refine xs_gst 3 r_145_0 rfl ?_
  refine xs_f 4 r_145_3 rfl ?_
  refine xs_ext 7 r_145_4 rfl rfl rfl rfl ?_
  refine xs_ald 8 0 r_145_7 (fun _ _ => rfl) rfl rfl rfl (j := 5) rfl (xarr_r rfl rfl) rfl (by omega) (by omega) rfl ?_
  refine xs_f 148 r_145_8 rfl ?_
  refine xs_f 149 r_145_148 rfl ?_
  refine xs_get 152 r_145_149 rfl rfl (by first | assumption | exact xup_s | exact o0 | exact b1 | exact t1 | (refine (xup_n (by omega)).trans ?_; first | assumption | exact xup_s | exact o0 | exact b1 | exact t1) | (refine (xup_n (by omega)).trans ((xup_n (by omega)).trans ?_); first | assumption | exact xup_s | exact o0 | exact b1 | exact t1) | (refine (xup_n (by omega)).trans ((xup_n (by omega)).trans ((xup_n (by omega)).trans ?_)); first | assumption | exact xup_s | exact o0 | exact b1 | exact t1)) (by rfl) ?_
  refine xs_f 153 r_145_152 rfl ?_
  refine xs_get 156 r_145_153 rfl rfl (by first | assumption | exact xup_s | exact o0 | exact b1 | exact t1 | (refine (xup_n (by omega)).trans ?_; first | assumption | exact xup_s | exact o0 | exact b1 | exact t1) | (refine (xup_n (by omega)).trans ((xup_n (by omega)).trans ?_); first | assumption | exact xup_s | exact o0 | exact b1 | exact t1) | (refine (xup_n (by omega)).trans ((xup_n (by omega)).trans ((xup_n (by omega)).trans ?_)); first | assumption | exact xup_s | exact o0 | exact b1 | exact t1)) (by rfl) ?_
  refine xs_f 157 r_145_156 rfl ?_
  refine xs_call (lv2 := [(0, _), (1, _)]) r_145_157 rfl rfl (by decide) (xcan_0 rfl rfl (by first | assumption | exact xup_s | exact o0 | exact b1 | exact t1 | (refine (xup_n (by omega)).trans ?_; first | assumption | exact xup_s | exact o0 | exact b1 | exact t1) | (refine (xup_n (by omega)).trans ((xup_n (by omega)).trans ?_); first | assumption | exact xup_s | exact o0 | exact b1 | exact t1) | (refine (xup_n (by omega)).trans ((xup_n (by omega)).trans ((xup_n (by omega)).trans ?_)); first | assumption | exact xup_s | exact o0 | exact b1 | exact t1)) (by rfl)) rfl (e_41 hT (by omega) (i := 0) (by omega) ?_)
  refine xK_v rfl ?_
  refine xs_call (lv2 := [(0, _), (1, _)]) r_145_160 rfl rfl (by decide) (xcan_0 rfl rfl (by first | assumption | exact xup_s | exact o0 | exact b1 | exact t1 | (refine (xup_n (by omega)).trans ?_; first | assumption | exact xup_s | exact o0 | exact b1 | exact t1) | (refine (xup_n (by omega)).trans ((xup_n (by omega)).trans ?_); first | assumption | exact xup_s | exact o0 | exact b1 | exact t1) | (refine (xup_n (by omega)).trans ((xup_n (by omega)).trans ((xup_n (by omega)).trans ?_)); first | assumption | exact xup_s | exact o0 | exact b1 | exact t1)) (by rfl)) rfl (c_27 hB (by omega) ?_)
  refine xK_v rfl ?_
  refine xs_ret r_145_163 rfl ?_
  exact k

theorem e_146_0 {S : XSc} {d : Nat} {h : XH} {Q : XO → XH → Prop} {N K : Nat} {G : Nat → Int32} {mn : Nat → Nat} {np no : Nat} {nn : Int32} {sc : Nat} {ho : Int32} {TS TH tr : Nat → Int32} {pl : Nat → XPl} {q : Nat → XQu} {s : Nat → Nat} {R : Nat → Nat → Nat} {i1 i2 i3 : Int32} (o0 : h.1 32 = some (.inr (8, [.ref 33, .ref 102, .ref 171, .ref 794, .ref 804, .ref 807, .int i1, .int i2, .int i3]))) (hB : BdP h.1 33 np no nn sc ho TS TH tr pl q s R) (hr : RG G mn np no nn sc ho tr pl q) (hk : OKc np no nn N sc ho TS TH pl q) (hN : N ≤ K) (hs : sc ≤ K) (hK : K ≤ 1000) {n p c : Nat} {Bu nu : Nat → Int32} (hT : TxP h.1 804 n p c Bu nu) (h0 : fltC np no pl q (nmC c nu) 0 = 0) (k : ∀ f, Sim f 33 (gC G np no sc mn (nmC c nu) 0) (K + 1) → Fr h.1 f 33 (33 + 69) → Q (.inl none) (f, h.2)) : xP S (d + 4) 146 0 [(0, .ref 32), (1, .ref 6)] [] h Q := by
  have b1 := hB.1
  have t1 := hT.1
  obtain ⟨⟨⟨-, n5⟩, ⟨-, n6⟩, gm⟩, -, -, r5, r6, -⟩ := id hr
  have h0 : joinF np = 0 := h0
  have hn : np < 5 := by
    unfold joinF at h0
    split at h0 <;> omega
  refine xs_gst 3 r_146_0 rfl ?_
  refine xs_f 4 r_146_3 rfl ?_
  refine xs_ext 7 r_146_4 rfl rfl rfl rfl ?_
  refine xs_ald 8 0 r_146_7 (fun _ _ => rfl) rfl rfl rfl (j := 0) rfl (xarr_r rfl rfl) rfl (by omega) (by omega) rfl ?_
  refine xs_f 44 r_146_8 rfl ?_
  refine xs_f 45 r_146_44 rfl ?_
  refine xs_get 48 r_146_45 rfl rfl (by first | assumption | exact xup_s | exact o0 | exact b1 | exact t1 | (refine (xup_n (by omega)).trans ?_; first | assumption | exact xup_s | exact o0 | exact b1 | exact t1) | (refine (xup_n (by omega)).trans ((xup_n (by omega)).trans ?_); first | assumption | exact xup_s | exact o0 | exact b1 | exact t1) | (refine (xup_n (by omega)).trans ((xup_n (by omega)).trans ((xup_n (by omega)).trans ?_)); first | assumption | exact xup_s | exact o0 | exact b1 | exact t1)) (by rfl) ?_
  refine xs_call (lv2 := [(0, _)]) r_146_48 rfl rfl (by decide) (xcan_0 rfl rfl (by first | assumption | exact xup_s | exact o0 | exact b1 | exact t1 | (refine (xup_n (by omega)).trans ?_; first | assumption | exact xup_s | exact o0 | exact b1 | exact t1) | (refine (xup_n (by omega)).trans ((xup_n (by omega)).trans ?_); first | assumption | exact xup_s | exact o0 | exact b1 | exact t1) | (refine (xup_n (by omega)).trans ((xup_n (by omega)).trans ((xup_n (by omega)).trans ?_)); first | assumption | exact xup_s | exact o0 | exact b1 | exact t1)) (by rfl)) rfl (c_15 hB (by omega) hn (fun f2 x2 y2 => ?_))
  refine xK_v rfl ?_
  refine xs_f 52 r_146_51 rfl ?_
  refine xs_f 179 r_146_52 rfl ?_
  refine xs_ret r_146_179 rfl ?_
  exact k f2 ⟨_, _, _, _, _, _, _, _, _, _, _, _, _, _, x2, hr.join hn, hk.join, by omega, by omega⟩ y2

theorem e_146_1 {S : XSc} {d : Nat} {h : XH} {Q : XO → XH → Prop} {N K : Nat} {G : Nat → Int32} {mn : Nat → Nat} {np no : Nat} {nn : Int32} {sc : Nat} {ho : Int32} {TS TH tr : Nat → Int32} {pl : Nat → XPl} {q : Nat → XQu} {s : Nat → Nat} {R : Nat → Nat → Nat} {i1 i2 i3 : Int32} (o0 : h.1 32 = some (.inr (8, [.ref 33, .ref 102, .ref 171, .ref 794, .ref 804, .ref 807, .int i1, .int i2, .int i3]))) (hB : BdP h.1 33 np no nn sc ho TS TH tr pl q s R) (hr : RG G mn np no nn sc ho tr pl q) (hk : OKc np no nn N sc ho TS TH pl q) (hN : N ≤ K) (hs : sc ≤ K) (hK : K ≤ 1000) {n p c : Nat} {Bu nu : Nat → Int32} (hT : TxP h.1 804 n p c Bu nu) (h0 : fltC np no pl q (nmC c nu) 1 = 0) (k : ∀ f, Sim f 33 (gC G np no sc mn (nmC c nu) 1) (K + 1) → Fr h.1 f 33 (33 + 69) → Q (.inl none) (f, h.2)) : xP S (d + 4) 146 0 [(0, .ref 32), (1, .ref 7)] [] h Q := by
  have b1 := hB.1
  have t1 := hT.1
  obtain ⟨⟨⟨-, n5⟩, ⟨-, n6⟩, gm⟩, -, -, r5, r6, -⟩ := id hr
  have h0 : askF no (nmC c nu 0) = 0 := h0
  have hw : 1 ≤ nmC c nu 0 ∧ nmC c nu 0 ≤ 3 := by
    unfold askF at h0
    split at h0
    · assumption
    · omega
  have hn : no < 6 := by
    unfold askF at h0
    rw [if_pos hw] at h0
    split at h0 <;> omega
  refine xs_gst 3 r_146_0 rfl ?_
  refine xs_f 4 r_146_3 rfl ?_
  refine xs_ext 7 r_146_4 rfl rfl rfl rfl ?_
  refine xs_ald 8 0 r_146_7 (fun _ _ => rfl) rfl rfl rfl (j := 1) rfl (xarr_r rfl rfl) rfl (by omega) (by omega) rfl ?_
  refine xs_f 55 r_146_8 rfl ?_
  refine xs_f 56 r_146_55 rfl ?_
  refine xs_get 59 r_146_56 rfl rfl (by first | assumption | exact xup_s | exact o0 | exact b1 | exact t1 | (refine (xup_n (by omega)).trans ?_; first | assumption | exact xup_s | exact o0 | exact b1 | exact t1) | (refine (xup_n (by omega)).trans ((xup_n (by omega)).trans ?_); first | assumption | exact xup_s | exact o0 | exact b1 | exact t1) | (refine (xup_n (by omega)).trans ((xup_n (by omega)).trans ((xup_n (by omega)).trans ?_)); first | assumption | exact xup_s | exact o0 | exact b1 | exact t1)) (by rfl) ?_
  refine xs_f 60 r_146_59 rfl ?_
  refine xs_get 63 r_146_60 rfl rfl (by first | assumption | exact xup_s | exact o0 | exact b1 | exact t1 | (refine (xup_n (by omega)).trans ?_; first | assumption | exact xup_s | exact o0 | exact b1 | exact t1) | (refine (xup_n (by omega)).trans ((xup_n (by omega)).trans ?_); first | assumption | exact xup_s | exact o0 | exact b1 | exact t1) | (refine (xup_n (by omega)).trans ((xup_n (by omega)).trans ((xup_n (by omega)).trans ?_)); first | assumption | exact xup_s | exact o0 | exact b1 | exact t1)) (by rfl) ?_
  refine xs_f 64 r_146_63 rfl ?_
  refine xs_call (lv2 := [(0, _), (1, _)]) r_146_64 rfl rfl (by decide) (xcan_0 rfl rfl (by first | assumption | exact xup_s | exact o0 | exact b1 | exact t1 | (refine (xup_n (by omega)).trans ?_; first | assumption | exact xup_s | exact o0 | exact b1 | exact t1) | (refine (xup_n (by omega)).trans ((xup_n (by omega)).trans ?_); first | assumption | exact xup_s | exact o0 | exact b1 | exact t1) | (refine (xup_n (by omega)).trans ((xup_n (by omega)).trans ((xup_n (by omega)).trans ?_)); first | assumption | exact xup_s | exact o0 | exact b1 | exact t1)) (by rfl)) rfl (e_41 hT (by omega) (i := 0) (by omega) ?_)
  refine xK_v rfl ?_
  refine xs_call (lv2 := [(0, _), (1, _)]) r_146_67 rfl rfl (by decide) (xcan_0 rfl rfl (by first | assumption | exact xup_s | exact o0 | exact b1 | exact t1 | (refine (xup_n (by omega)).trans ?_; first | assumption | exact xup_s | exact o0 | exact b1 | exact t1) | (refine (xup_n (by omega)).trans ((xup_n (by omega)).trans ?_); first | assumption | exact xup_s | exact o0 | exact b1 | exact t1) | (refine (xup_n (by omega)).trans ((xup_n (by omega)).trans ((xup_n (by omega)).trans ?_)); first | assumption | exact xup_s | exact o0 | exact b1 | exact t1)) (by rfl)) rfl (c_17 hB (by omega) hn (fun f2 R2 x2 y2 => ?_))
  refine xK_v rfl ?_
  refine xs_f 71 r_146_70 rfl ?_
  refine xs_f 179 r_146_71 rfl ?_
  refine xs_ret r_146_179 rfl ?_
  exact k f2 ⟨_, _, _, _, _, _, _, _, _, _, _, _, _, _, x2, hr.ask hn _, hk.ask hw, by omega, by omega⟩ y2

theorem e_146_2 {S : XSc} {d : Nat} {h : XH} {Q : XO → XH → Prop} {N K : Nat} {G : Nat → Int32} {mn : Nat → Nat} {np no : Nat} {nn : Int32} {sc : Nat} {ho : Int32} {TS TH tr : Nat → Int32} {pl : Nat → XPl} {q : Nat → XQu} {s : Nat → Nat} {R : Nat → Nat → Nat} {i1 i2 i3 : Int32} (o0 : h.1 32 = some (.inr (8, [.ref 33, .ref 102, .ref 171, .ref 794, .ref 804, .ref 807, .int i1, .int i2, .int i3]))) (hB : BdP h.1 33 np no nn sc ho TS TH tr pl q s R) (hr : RG G mn np no nn sc ho tr pl q) (hk : OKc np no nn N sc ho TS TH pl q) (hN : N ≤ K) (hs : sc ≤ K) (hK : K ≤ 1000) {n p c : Nat} {Bu nu : Nat → Int32} (hT : TxP h.1 804 n p c Bu nu) (h0 : fltC np no pl q (nmC c nu) 2 = 0) (k : ∀ f, Sim f 33 (gC G np no sc mn (nmC c nu) 2) (K + 1) → Fr h.1 f 33 (33 + 69) → Q (.inl none) (f, h.2)) : xP S (d + 4) 146 0 [(0, .ref 32), (1, .ref 8)] [] h Q := by
  have b1 := hB.1
  have t1 := hT.1
  obtain ⟨⟨⟨-, n5⟩, ⟨-, n6⟩, gm⟩, -, -, r5, r6, -⟩ := id hr
  have h0 : betF np no pl q (nmC c nu 0) (nmC c nu 1) (nmC c nu 2) (nmC c nu 3) (nmC c nu 4) (nmC c nu 5) = 0 := h0
  obtain ⟨hp, hq, hb, hr9⟩ := betF_ok h0
  obtain ⟨i, hi, hpi, hcl⟩ := isPl_c hp (by omega)
  rw [hpi] at hr9
  have hm := (hk.2.1 _ hq).room n5 hi hr9
  have ej := pla_cong r6 (nmC c nu 1)
  have em : mn (pla q no (nmC c nu 1)) = (q (pla q no (nmC c nu 1))).2.2.1 := (r6 _ hq).2.2.1.symm
  refine xs_gst 3 r_146_0 rfl ?_
  refine xs_f 4 r_146_3 rfl ?_
  refine xs_ext 7 r_146_4 rfl rfl rfl rfl ?_
  refine xs_ald 8 0 r_146_7 (fun _ _ => rfl) rfl rfl rfl (j := 2) rfl (xarr_r rfl rfl) rfl (by omega) (by omega) rfl ?_
  refine xs_f 74 r_146_8 rfl ?_
  refine xs_f 75 r_146_74 rfl ?_
  refine xs_get 78 r_146_75 rfl rfl (by first | assumption | exact xup_s | exact o0 | exact b1 | exact t1 | (refine (xup_n (by omega)).trans ?_; first | assumption | exact xup_s | exact o0 | exact b1 | exact t1) | (refine (xup_n (by omega)).trans ((xup_n (by omega)).trans ?_); first | assumption | exact xup_s | exact o0 | exact b1 | exact t1) | (refine (xup_n (by omega)).trans ((xup_n (by omega)).trans ((xup_n (by omega)).trans ?_)); first | assumption | exact xup_s | exact o0 | exact b1 | exact t1)) (by rfl) ?_
  refine xs_f 79 r_146_78 rfl ?_
  refine xs_get 82 r_146_79 rfl rfl (by first | assumption | exact xup_s | exact o0 | exact b1 | exact t1 | (refine (xup_n (by omega)).trans ?_; first | assumption | exact xup_s | exact o0 | exact b1 | exact t1) | (refine (xup_n (by omega)).trans ((xup_n (by omega)).trans ?_); first | assumption | exact xup_s | exact o0 | exact b1 | exact t1) | (refine (xup_n (by omega)).trans ((xup_n (by omega)).trans ((xup_n (by omega)).trans ?_)); first | assumption | exact xup_s | exact o0 | exact b1 | exact t1)) (by rfl) ?_
  refine xs_f 83 r_146_82 rfl ?_
  refine xs_call (lv2 := [(0, _), (1, _)]) r_146_83 rfl rfl (by decide) (xcan_0 rfl rfl (by first | assumption | exact xup_s | exact o0 | exact b1 | exact t1 | (refine (xup_n (by omega)).trans ?_; first | assumption | exact xup_s | exact o0 | exact b1 | exact t1) | (refine (xup_n (by omega)).trans ((xup_n (by omega)).trans ?_); first | assumption | exact xup_s | exact o0 | exact b1 | exact t1) | (refine (xup_n (by omega)).trans ((xup_n (by omega)).trans ((xup_n (by omega)).trans ?_)); first | assumption | exact xup_s | exact o0 | exact b1 | exact t1)) (by rfl)) rfl (e_41 hT (by omega) (i := 0) (by omega) ?_)
  refine xK_v rfl ?_
  refine xs_f 87 r_146_86 rfl ?_
  refine xs_get 90 r_146_87 rfl rfl (by first | assumption | exact xup_s | exact o0 | exact b1 | exact t1 | (refine (xup_n (by omega)).trans ?_; first | assumption | exact xup_s | exact o0 | exact b1 | exact t1) | (refine (xup_n (by omega)).trans ((xup_n (by omega)).trans ?_); first | assumption | exact xup_s | exact o0 | exact b1 | exact t1) | (refine (xup_n (by omega)).trans ((xup_n (by omega)).trans ((xup_n (by omega)).trans ?_)); first | assumption | exact xup_s | exact o0 | exact b1 | exact t1)) (by rfl) ?_
  refine xs_f 91 r_146_90 rfl ?_
  refine xs_call (lv2 := [(0, _), (1, _)]) r_146_91 rfl rfl (by decide) (xcan_0 rfl rfl (by first | assumption | exact xup_s | exact o0 | exact b1 | exact t1 | (refine (xup_n (by omega)).trans ?_; first | assumption | exact xup_s | exact o0 | exact b1 | exact t1) | (refine (xup_n (by omega)).trans ((xup_n (by omega)).trans ?_); first | assumption | exact xup_s | exact o0 | exact b1 | exact t1) | (refine (xup_n (by omega)).trans ((xup_n (by omega)).trans ((xup_n (by omega)).trans ?_)); first | assumption | exact xup_s | exact o0 | exact b1 | exact t1)) (by rfl)) rfl (e_41 hT (by omega) (i := 1) (by omega) ?_)
  refine xK_v rfl ?_
  refine xs_f 95 r_146_94 rfl ?_
  refine xs_get 98 r_146_95 rfl rfl (by first | assumption | exact xup_s | exact o0 | exact b1 | exact t1 | (refine (xup_n (by omega)).trans ?_; first | assumption | exact xup_s | exact o0 | exact b1 | exact t1) | (refine (xup_n (by omega)).trans ((xup_n (by omega)).trans ?_); first | assumption | exact xup_s | exact o0 | exact b1 | exact t1) | (refine (xup_n (by omega)).trans ((xup_n (by omega)).trans ((xup_n (by omega)).trans ?_)); first | assumption | exact xup_s | exact o0 | exact b1 | exact t1)) (by rfl) ?_
  refine xs_f 99 r_146_98 rfl ?_
  refine xs_call (lv2 := [(0, _), (1, _)]) r_146_99 rfl rfl (by decide) (xcan_0 rfl rfl (by first | assumption | exact xup_s | exact o0 | exact b1 | exact t1 | (refine (xup_n (by omega)).trans ?_; first | assumption | exact xup_s | exact o0 | exact b1 | exact t1) | (refine (xup_n (by omega)).trans ((xup_n (by omega)).trans ?_); first | assumption | exact xup_s | exact o0 | exact b1 | exact t1) | (refine (xup_n (by omega)).trans ((xup_n (by omega)).trans ((xup_n (by omega)).trans ?_)); first | assumption | exact xup_s | exact o0 | exact b1 | exact t1)) (by rfl)) rfl (e_41 hT (by omega) (i := 2) (by omega) ?_)
  refine xK_v rfl ?_
  refine xs_f 103 r_146_102 rfl ?_
  refine xs_get 106 r_146_103 rfl rfl (by first | assumption | exact xup_s | exact o0 | exact b1 | exact t1 | (refine (xup_n (by omega)).trans ?_; first | assumption | exact xup_s | exact o0 | exact b1 | exact t1) | (refine (xup_n (by omega)).trans ((xup_n (by omega)).trans ?_); first | assumption | exact xup_s | exact o0 | exact b1 | exact t1) | (refine (xup_n (by omega)).trans ((xup_n (by omega)).trans ((xup_n (by omega)).trans ?_)); first | assumption | exact xup_s | exact o0 | exact b1 | exact t1)) (by rfl) ?_
  refine xs_f 107 r_146_106 rfl ?_
  refine xs_call (lv2 := [(0, _), (1, _)]) r_146_107 rfl rfl (by decide) (xcan_0 rfl rfl (by first | assumption | exact xup_s | exact o0 | exact b1 | exact t1 | (refine (xup_n (by omega)).trans ?_; first | assumption | exact xup_s | exact o0 | exact b1 | exact t1) | (refine (xup_n (by omega)).trans ((xup_n (by omega)).trans ?_); first | assumption | exact xup_s | exact o0 | exact b1 | exact t1) | (refine (xup_n (by omega)).trans ((xup_n (by omega)).trans ((xup_n (by omega)).trans ?_)); first | assumption | exact xup_s | exact o0 | exact b1 | exact t1)) (by rfl)) rfl (e_41 hT (by omega) (i := 3) (by omega) ?_)
  refine xK_v rfl ?_
  refine xs_f 111 r_146_110 rfl ?_
  refine xs_get 114 r_146_111 rfl rfl (by first | assumption | exact xup_s | exact o0 | exact b1 | exact t1 | (refine (xup_n (by omega)).trans ?_; first | assumption | exact xup_s | exact o0 | exact b1 | exact t1) | (refine (xup_n (by omega)).trans ((xup_n (by omega)).trans ?_); first | assumption | exact xup_s | exact o0 | exact b1 | exact t1) | (refine (xup_n (by omega)).trans ((xup_n (by omega)).trans ((xup_n (by omega)).trans ?_)); first | assumption | exact xup_s | exact o0 | exact b1 | exact t1)) (by rfl) ?_
  refine xs_f 115 r_146_114 rfl ?_
  refine xs_call (lv2 := [(0, _), (1, _)]) r_146_115 rfl rfl (by decide) (xcan_0 rfl rfl (by first | assumption | exact xup_s | exact o0 | exact b1 | exact t1 | (refine (xup_n (by omega)).trans ?_; first | assumption | exact xup_s | exact o0 | exact b1 | exact t1) | (refine (xup_n (by omega)).trans ((xup_n (by omega)).trans ?_); first | assumption | exact xup_s | exact o0 | exact b1 | exact t1) | (refine (xup_n (by omega)).trans ((xup_n (by omega)).trans ((xup_n (by omega)).trans ?_)); first | assumption | exact xup_s | exact o0 | exact b1 | exact t1)) (by rfl)) rfl (e_41 hT (by omega) (i := 4) (by omega) ?_)
  refine xK_v rfl ?_
  refine xs_f 119 r_146_118 rfl ?_
  refine xs_get 122 r_146_119 rfl rfl (by first | assumption | exact xup_s | exact o0 | exact b1 | exact t1 | (refine (xup_n (by omega)).trans ?_; first | assumption | exact xup_s | exact o0 | exact b1 | exact t1) | (refine (xup_n (by omega)).trans ((xup_n (by omega)).trans ?_); first | assumption | exact xup_s | exact o0 | exact b1 | exact t1) | (refine (xup_n (by omega)).trans ((xup_n (by omega)).trans ((xup_n (by omega)).trans ?_)); first | assumption | exact xup_s | exact o0 | exact b1 | exact t1)) (by rfl) ?_
  refine xs_f 123 r_146_122 rfl ?_
  refine xs_call (lv2 := [(0, _), (1, _)]) r_146_123 rfl rfl (by decide) (xcan_0 rfl rfl (by first | assumption | exact xup_s | exact o0 | exact b1 | exact t1 | (refine (xup_n (by omega)).trans ?_; first | assumption | exact xup_s | exact o0 | exact b1 | exact t1) | (refine (xup_n (by omega)).trans ((xup_n (by omega)).trans ?_); first | assumption | exact xup_s | exact o0 | exact b1 | exact t1) | (refine (xup_n (by omega)).trans ((xup_n (by omega)).trans ((xup_n (by omega)).trans ?_)); first | assumption | exact xup_s | exact o0 | exact b1 | exact t1)) (by rfl)) rfl (e_41 hT (by omega) (i := 5) (by omega) ?_)
  refine xK_v rfl ?_
  refine xs_call (lv2 := [(0, _), (1, _), (2, _), (3, _), (4, _), (5, _), (6, _)]) r_146_126 rfl rfl (by decide) (xcan_0 rfl rfl (by first | assumption | exact xup_s | exact o0 | exact b1 | exact t1 | (refine (xup_n (by omega)).trans ?_; first | assumption | exact xup_s | exact o0 | exact b1 | exact t1) | (refine (xup_n (by omega)).trans ((xup_n (by omega)).trans ?_); first | assumption | exact xup_s | exact o0 | exact b1 | exact t1) | (refine (xup_n (by omega)).trans ((xup_n (by omega)).trans ((xup_n (by omega)).trans ?_)); first | assumption | exact xup_s | exact o0 | exact b1 | exact t1)) (by rfl)) rfl (xP_lv [(0, .ref 33), (1, .int (nI i)), (2, .int (nmC c nu 1)), (3, .int (nmC c nu 2)), (4, .int (nmC c nu 3)), (5, .int (nmC c nu 4)), (6, .int (nmC c nu 5))] rfl ⟨rfl, (congrArg (fun z => some (Value.int z)) hpi), rfl, rfl, rfl, rfl, rfl, trivial⟩ (c_19 hB (by omega) (i := i) (j := pla q no (nmC c nu 1)) (by omega) rfl hq hm (fun f2 R2 x2 y2 => ?_)))
  refine xK_v rfl ?_
  refine xs_f 130 r_146_129 rfl ?_
  refine xs_f 179 r_146_130 rfl ?_
  refine xs_ret r_146_179 rfl ?_
  have eg : gC G np no sc mn (nmC c nu) 2 = gBet G i (pla q no (nmC c nu 1)) (mn (pla q no (nmC c nu 1))) (nmC c nu 2) (nmC c nu 3) (nmC c nu 4) (nmC c nu 5) := by
    show gBet G (nmC c nu 0).toNatClampNeg _ _ _ _ _ _ = _
    rw [hcl, ← ej]
  rw [eg] at k
  exact k f2 ⟨_, _, _, _, _, _, _, _, _, _, _, _, _, _, x2, hr.bet hi hq rfl (by omega) _ _ _ _, hk.bet hi hq hb hm hr9, by omega, by omega⟩ y2

theorem e_146_3 {S : XSc} {d : Nat} {h : XH} {Q : XO → XH → Prop} {N K : Nat} {G : Nat → Int32} {mn : Nat → Nat} {np no : Nat} {nn : Int32} {sc : Nat} {ho : Int32} {TS TH tr : Nat → Int32} {pl : Nat → XPl} {q : Nat → XQu} {s : Nat → Nat} {R : Nat → Nat → Nat} {i1 i2 i3 : Int32} (o0 : h.1 32 = some (.inr (8, [.ref 33, .ref 102, .ref 171, .ref 794, .ref 804, .ref 807, .int i1, .int i2, .int i3]))) (hB : BdP h.1 33 np no nn sc ho TS TH tr pl q s R) (hr : RG G mn np no nn sc ho tr pl q) (hk : OKc np no nn N sc ho TS TH pl q) (hN : N ≤ K) (hs : sc ≤ K) (hK : K ≤ 1000) {n p c : Nat} {Bu nu : Nat → Int32} (hT : TxP h.1 804 n p c Bu nu) (h0 : fltC np no pl q (nmC c nu) 3 = 0) (k : ∀ f, Sim f 33 (gC G np no sc mn (nmC c nu) 3) (K + 1) → Fr h.1 f 33 (33 + 69) → Q (.inl none) (f, h.2)) : xP S (d + 4) 146 0 [(0, .ref 32), (1, .ref 9)] [] h Q := by
  have b1 := hB.1
  have t1 := hT.1
  obtain ⟨⟨⟨-, n5⟩, ⟨-, n6⟩, gm⟩, -, -, r5, r6, -⟩ := id hr
  have h0 : settF no (nmC c nu 0) = 0 := h0
  have ht : 0 ≤ nmC c nu 0 ∧ nmC c nu 0 ≤ 999 := by
    unfold settF at h0
    split at h0
    · assumption
    · omega
  have hn : 0 < no := by
    unfold settF at h0
    rw [if_pos ht] at h0
    unfold postF at h0
    split at h0 <;> omega
  obtain ⟨k9, hk9, et⟩ := nat_of (b := 999) ht.1 ht.2 (by omega)
  refine xs_gst 3 r_146_0 rfl ?_
  refine xs_f 4 r_146_3 rfl ?_
  refine xs_ext 7 r_146_4 rfl rfl rfl rfl ?_
  refine xs_ald 8 0 r_146_7 (fun _ _ => rfl) rfl rfl rfl (j := 3) rfl (xarr_r rfl rfl) rfl (by omega) (by omega) rfl ?_
  refine xs_f 133 r_146_8 rfl ?_
  refine xs_f 134 r_146_133 rfl ?_
  refine xs_get 137 r_146_134 rfl rfl (by first | assumption | exact xup_s | exact o0 | exact b1 | exact t1 | (refine (xup_n (by omega)).trans ?_; first | assumption | exact xup_s | exact o0 | exact b1 | exact t1) | (refine (xup_n (by omega)).trans ((xup_n (by omega)).trans ?_); first | assumption | exact xup_s | exact o0 | exact b1 | exact t1) | (refine (xup_n (by omega)).trans ((xup_n (by omega)).trans ((xup_n (by omega)).trans ?_)); first | assumption | exact xup_s | exact o0 | exact b1 | exact t1)) (by rfl) ?_
  refine xs_f 138 r_146_137 rfl ?_
  refine xs_get 141 r_146_138 rfl rfl (by first | assumption | exact xup_s | exact o0 | exact b1 | exact t1 | (refine (xup_n (by omega)).trans ?_; first | assumption | exact xup_s | exact o0 | exact b1 | exact t1) | (refine (xup_n (by omega)).trans ((xup_n (by omega)).trans ?_); first | assumption | exact xup_s | exact o0 | exact b1 | exact t1) | (refine (xup_n (by omega)).trans ((xup_n (by omega)).trans ((xup_n (by omega)).trans ?_)); first | assumption | exact xup_s | exact o0 | exact b1 | exact t1)) (by rfl) ?_
  refine xs_f 142 r_146_141 rfl ?_
  refine xs_call (lv2 := [(0, _), (1, _)]) r_146_142 rfl rfl (by decide) (xcan_0 rfl rfl (by first | assumption | exact xup_s | exact o0 | exact b1 | exact t1 | (refine (xup_n (by omega)).trans ?_; first | assumption | exact xup_s | exact o0 | exact b1 | exact t1) | (refine (xup_n (by omega)).trans ((xup_n (by omega)).trans ?_); first | assumption | exact xup_s | exact o0 | exact b1 | exact t1) | (refine (xup_n (by omega)).trans ((xup_n (by omega)).trans ((xup_n (by omega)).trans ?_)); first | assumption | exact xup_s | exact o0 | exact b1 | exact t1)) (by rfl)) rfl (e_41 hT (by omega) (i := 0) (by omega) ?_)
  refine xK_v rfl ?_
  refine xs_call (lv2 := [(0, _), (1, _)]) r_146_145 rfl rfl (by decide) (xcan_0 rfl rfl (by first | assumption | exact xup_s | exact o0 | exact b1 | exact t1 | (refine (xup_n (by omega)).trans ?_; first | assumption | exact xup_s | exact o0 | exact b1 | exact t1) | (refine (xup_n (by omega)).trans ((xup_n (by omega)).trans ?_); first | assumption | exact xup_s | exact o0 | exact b1 | exact t1) | (refine (xup_n (by omega)).trans ((xup_n (by omega)).trans ((xup_n (by omega)).trans ?_)); first | assumption | exact xup_s | exact o0 | exact b1 | exact t1)) (by rfl)) rfl (xP_lv [(0, .ref 33), (1, .int (nI k9))] rfl ⟨rfl, (congrArg (fun z => some (Value.int z)) et), trivial⟩ (c_21 hB (by omega) hn (by omega) (fun r hr2 => ((hk.2.1 0 hn).2.2.2.1 r hr2).okE) (fun f2 R2 s2 x2 y2 => ?_)))
  refine xK_v rfl ?_
  refine xs_f 149 r_146_148 rfl ?_
  refine xs_f 179 r_146_149 rfl ?_
  refine xs_ret r_146_179 rfl ?_
  have ok0 := ((hk.2.1 0 hn).cg (r6 0 hn).symm).2.2.2.1
  have eg : gC G np no sc mn (nmC c nu) 3 = gSet G no (mn 0) sc (nI k9) := by
    show gSet G no (mn 0) sc (nmC c nu 0) = _
    rw [et]
  rw [eg] at k
  exact k f2 ⟨_, _, _, _, _, _, _, _, _, _, _, _, _, _, x2, hr.settle hn hk9 ok0 (TS, TH), hk.settle n5 hn hk9, by omega, by omega⟩ y2

theorem e_146_4 {S : XSc} {d : Nat} {h : XH} {Q : XO → XH → Prop} {N K : Nat} {G : Nat → Int32} {mn : Nat → Nat} {np no : Nat} {nn : Int32} {sc : Nat} {ho : Int32} {TS TH tr : Nat → Int32} {pl : Nat → XPl} {q : Nat → XQu} {s : Nat → Nat} {R : Nat → Nat → Nat} {i1 i2 i3 : Int32} (o0 : h.1 32 = some (.inr (8, [.ref 33, .ref 102, .ref 171, .ref 794, .ref 804, .ref 807, .int i1, .int i2, .int i3]))) (hB : BdP h.1 33 np no nn sc ho TS TH tr pl q s R) (hr : RG G mn np no nn sc ho tr pl q) (hk : OKc np no nn N sc ho TS TH pl q) (hN : N ≤ K) (hs : sc ≤ K) (hK : K ≤ 1000) {n p c : Nat} {Bu nu : Nat → Int32} (hT : TxP h.1 804 n p c Bu nu) (h0 : fltC np no pl q (nmC c nu) 4 = 0) (k : ∀ f, Sim f 33 (gC G np no sc mn (nmC c nu) 4) (K + 1) → Fr h.1 f 33 (33 + 69) → Q (.inl none) (f, h.2)) : xP S (d + 4) 146 0 [(0, .ref 32), (1, .ref 10)] [] h Q := by
  have b1 := hB.1
  have t1 := hT.1
  obtain ⟨⟨⟨-, n5⟩, ⟨-, n6⟩, gm⟩, -, -, r5, r6, -⟩ := id hr
  have h0 : postF no = 0 := h0
  have hn : 0 < no := by
    unfold postF at h0
    split at h0 <;> omega
  refine xs_gst 3 r_146_0 rfl ?_
  refine xs_f 4 r_146_3 rfl ?_
  refine xs_ext 7 r_146_4 rfl rfl rfl rfl ?_
  refine xs_ald 8 0 r_146_7 (fun _ _ => rfl) rfl rfl rfl (j := 4) rfl (xarr_r rfl rfl) rfl (by omega) (by omega) rfl ?_
  refine xs_f 152 r_146_8 rfl ?_
  refine xs_f 153 r_146_152 rfl ?_
  refine xs_get 156 r_146_153 rfl rfl (by first | assumption | exact xup_s | exact o0 | exact b1 | exact t1 | (refine (xup_n (by omega)).trans ?_; first | assumption | exact xup_s | exact o0 | exact b1 | exact t1) | (refine (xup_n (by omega)).trans ((xup_n (by omega)).trans ?_); first | assumption | exact xup_s | exact o0 | exact b1 | exact t1) | (refine (xup_n (by omega)).trans ((xup_n (by omega)).trans ((xup_n (by omega)).trans ?_)); first | assumption | exact xup_s | exact o0 | exact b1 | exact t1)) (by rfl) ?_
  refine xs_call (lv2 := [(0, _)]) r_146_156 rfl rfl (by decide) (xcan_0 rfl rfl (by first | assumption | exact xup_s | exact o0 | exact b1 | exact t1 | (refine (xup_n (by omega)).trans ?_; first | assumption | exact xup_s | exact o0 | exact b1 | exact t1) | (refine (xup_n (by omega)).trans ((xup_n (by omega)).trans ?_); first | assumption | exact xup_s | exact o0 | exact b1 | exact t1) | (refine (xup_n (by omega)).trans ((xup_n (by omega)).trans ((xup_n (by omega)).trans ?_)); first | assumption | exact xup_s | exact o0 | exact b1 | exact t1)) (by rfl)) rfl (c_26 hB (by omega) hn (fun f2 x2 y2 => ?_))
  refine xK_v rfl ?_
  refine xs_f 160 r_146_159 rfl ?_
  refine xs_f 179 r_146_160 rfl ?_
  refine xs_ret r_146_179 rfl ?_
  exact k f2 ⟨_, _, _, _, _, _, _, _, _, _, _, _, _, _, x2, hr.post hn, hk.post hn, by omega, by omega⟩ y2

theorem e_146_5 {S : XSc} {d : Nat} {h : XH} {Q : XO → XH → Prop} {N K : Nat} {G : Nat → Int32} {mn : Nat → Nat} {np no : Nat} {nn : Int32} {sc : Nat} {ho : Int32} {TS TH tr : Nat → Int32} {pl : Nat → XPl} {q : Nat → XQu} {s : Nat → Nat} {R : Nat → Nat → Nat} {i1 i2 i3 : Int32} (o0 : h.1 32 = some (.inr (8, [.ref 33, .ref 102, .ref 171, .ref 794, .ref 804, .ref 807, .int i1, .int i2, .int i3]))) (hB : BdP h.1 33 np no nn sc ho TS TH tr pl q s R) (hr : RG G mn np no nn sc ho tr pl q) (hk : OKc np no nn N sc ho TS TH pl q) (hN : N ≤ K) (hs : sc ≤ K) (hK : K ≤ 1000) {n p c : Nat} {Bu nu : Nat → Int32} (hT : TxP h.1 804 n p c Bu nu) (h0 : fltC np no pl q (nmC c nu) 5 = 0) (k : ∀ f, Sim f 33 (gC G np no sc mn (nmC c nu) 5) (K + 1) → Fr h.1 f 33 (33 + 69) → Q (.inl none) (f, h.2)) : xP S (d + 4) 146 0 [(0, .ref 32), (1, .ref 11)] [] h Q := by
  have b1 := hB.1
  have t1 := hT.1
  obtain ⟨⟨⟨-, n5⟩, ⟨-, n6⟩, gm⟩, -, -, r5, r6, -⟩ := id hr
  have h0 : leavF np pl (nmC c nu 0) = 0 := h0
  have hp : isPl np (nmC c nu 0) := by
    unfold leavF at h0
    split at h0
    · assumption
    · omega
  obtain ⟨i, hi, hpi, hcl⟩ := isPl_c hp (by omega)
  refine xs_gst 3 r_146_0 rfl ?_
  refine xs_f 4 r_146_3 rfl ?_
  refine xs_ext 7 r_146_4 rfl rfl rfl rfl ?_
  refine xs_ald 8 0 r_146_7 (fun _ _ => rfl) rfl rfl rfl (j := 5) rfl (xarr_r rfl rfl) rfl (by omega) (by omega) rfl ?_
  refine xs_f 163 r_146_8 rfl ?_
  refine xs_f 164 r_146_163 rfl ?_
  refine xs_get 167 r_146_164 rfl rfl (by first | assumption | exact xup_s | exact o0 | exact b1 | exact t1 | (refine (xup_n (by omega)).trans ?_; first | assumption | exact xup_s | exact o0 | exact b1 | exact t1) | (refine (xup_n (by omega)).trans ((xup_n (by omega)).trans ?_); first | assumption | exact xup_s | exact o0 | exact b1 | exact t1) | (refine (xup_n (by omega)).trans ((xup_n (by omega)).trans ((xup_n (by omega)).trans ?_)); first | assumption | exact xup_s | exact o0 | exact b1 | exact t1)) (by rfl) ?_
  refine xs_f 168 r_146_167 rfl ?_
  refine xs_get 171 r_146_168 rfl rfl (by first | assumption | exact xup_s | exact o0 | exact b1 | exact t1 | (refine (xup_n (by omega)).trans ?_; first | assumption | exact xup_s | exact o0 | exact b1 | exact t1) | (refine (xup_n (by omega)).trans ((xup_n (by omega)).trans ?_); first | assumption | exact xup_s | exact o0 | exact b1 | exact t1) | (refine (xup_n (by omega)).trans ((xup_n (by omega)).trans ((xup_n (by omega)).trans ?_)); first | assumption | exact xup_s | exact o0 | exact b1 | exact t1)) (by rfl) ?_
  refine xs_f 172 r_146_171 rfl ?_
  refine xs_call (lv2 := [(0, _), (1, _)]) r_146_172 rfl rfl (by decide) (xcan_0 rfl rfl (by first | assumption | exact xup_s | exact o0 | exact b1 | exact t1 | (refine (xup_n (by omega)).trans ?_; first | assumption | exact xup_s | exact o0 | exact b1 | exact t1) | (refine (xup_n (by omega)).trans ((xup_n (by omega)).trans ?_); first | assumption | exact xup_s | exact o0 | exact b1 | exact t1) | (refine (xup_n (by omega)).trans ((xup_n (by omega)).trans ((xup_n (by omega)).trans ?_)); first | assumption | exact xup_s | exact o0 | exact b1 | exact t1)) (by rfl)) rfl (e_41 hT (by omega) (i := 0) (by omega) ?_)
  refine xK_v rfl ?_
  refine xs_call (lv2 := [(0, _), (1, _)]) r_146_175 rfl rfl (by decide) (xcan_0 rfl rfl (by first | assumption | exact xup_s | exact o0 | exact b1 | exact t1 | (refine (xup_n (by omega)).trans ?_; first | assumption | exact xup_s | exact o0 | exact b1 | exact t1) | (refine (xup_n (by omega)).trans ((xup_n (by omega)).trans ?_); first | assumption | exact xup_s | exact o0 | exact b1 | exact t1) | (refine (xup_n (by omega)).trans ((xup_n (by omega)).trans ((xup_n (by omega)).trans ?_)); first | assumption | exact xup_s | exact o0 | exact b1 | exact t1)) (by rfl)) rfl (xP_lv [(0, .ref 33), (1, .int (nI i))] rfl ⟨rfl, (congrArg (fun z => some (Value.int z)) hpi), trivial⟩ (c_28 hB (by omega) (x := i) (by omega) (fun f2 R2 x2 y2 => ?_)))
  refine xK_v rfl ?_
  refine xs_f 179 r_146_178 rfl ?_
  refine xs_ret r_146_179 rfl ?_
  have eg : gC G np no sc mn (nmC c nu) 5 = xw (wdN G i mn no) (15 + i) 1 := by
    show xw (wdN G (nmC c nu 0).toNatClampNeg mn no) (15 + (nmC c nu 0).toNatClampNeg) 1 = _
    rw [hcl]
  rw [eg] at k
  exact k f2 ⟨_, _, _, _, _, _, _, _, _, _, _, _, _, _, x2, hr.leave hi, hk.leave hi, by omega, by omega⟩ y2

