/-! the class refuses -/
theorem e_135_0 {S : XSc} {d : Nat} {h : XH} {Q : XO → XH → Prop} (k : Q (.inl none) h) : xP S d 135 0 [(0, .ref 0)] [] h Q := by
  refine xs_gst 3 r_135_0 rfl ?_
  refine xs_f 4 r_135_3 rfl ?_
  refine xs_ext 7 r_135_4 rfl rfl rfl rfl ?_
  refine xs_ald 8 0 r_135_7 (fun _ _ => rfl) rfl rfl rfl (j := 0) rfl (xarr_r rfl rfl) rfl (by omega) (by omega) rfl ?_
  refine xs_f 98 r_135_8 rfl ?_
  refine xs_ret r_135_98 rfl ?_
  exact k

theorem e_135_1 {S : XSc} {d : Nat} {h : XH} {Q : XO → XH → Prop} (k : Q (.inr 2) (xbump h)) : xP S d 135 0 [(0, .ref 1)] [] h Q := by
  refine xs_gst 3 r_135_0 rfl ?_
  refine xs_f 4 r_135_3 rfl ?_
  refine xs_ext 7 r_135_4 rfl rfl rfl rfl ?_
  refine xs_ald 8 0 r_135_7 (fun _ _ => rfl) rfl rfl rfl (j := 1) rfl (xarr_r rfl rfl) rfl (by omega) (by omega) rfl ?_
  refine xs_f 44 r_135_8 rfl ?_
  refine xs_thr r_135_44 rfl ?_
  exact k

theorem e_135_2 {S : XSc} {d : Nat} {h : XH} {Q : XO → XH → Prop} (k : Q (.inr 5) (xbump h)) : xP S d 135 0 [(0, .ref 2)] [] h Q := by
  refine xs_gst 3 r_135_0 rfl ?_
  refine xs_f 4 r_135_3 rfl ?_
  refine xs_ext 7 r_135_4 rfl rfl rfl rfl ?_
  refine xs_ald 8 0 r_135_7 (fun _ _ => rfl) rfl rfl rfl (j := 2) rfl (xarr_r rfl rfl) rfl (by omega) (by omega) rfl ?_
  refine xs_f 55 r_135_8 rfl ?_
  refine xs_thr r_135_55 rfl ?_
  exact k

theorem e_135_3 {S : XSc} {d : Nat} {h : XH} {Q : XO → XH → Prop} (k : Q (.inr 1) (xbump h)) : xP S d 135 0 [(0, .ref 3)] [] h Q := by
  refine xs_gst 3 r_135_0 rfl ?_
  refine xs_f 4 r_135_3 rfl ?_
  refine xs_ext 7 r_135_4 rfl rfl rfl rfl ?_
  refine xs_ald 8 0 r_135_7 (fun _ _ => rfl) rfl rfl rfl (j := 3) rfl (xarr_r rfl rfl) rfl (by omega) (by omega) rfl ?_
  refine xs_f 65 r_135_8 rfl ?_
  refine xs_thr r_135_65 rfl ?_
  exact k

theorem e_135_4 {S : XSc} {d : Nat} {h : XH} {Q : XO → XH → Prop} (k : Q (.inr 4) (xbump h)) : xP S d 135 0 [(0, .ref 4)] [] h Q := by
  refine xs_gst 3 r_135_0 rfl ?_
  refine xs_f 4 r_135_3 rfl ?_
  refine xs_ext 7 r_135_4 rfl rfl rfl rfl ?_
  refine xs_ald 8 0 r_135_7 (fun _ _ => rfl) rfl rfl rfl (j := 4) rfl (xarr_r rfl rfl) rfl (by omega) (by omega) rfl ?_
  refine xs_f 76 r_135_8 rfl ?_
  refine xs_thr r_135_76 rfl ?_
  exact k

theorem e_135_5 {S : XSc} {d : Nat} {h : XH} {Q : XO → XH → Prop} (k : Q (.inr 0) (xbump h)) : xP S d 135 0 [(0, .ref 5)] [] h Q := by
  refine xs_gst 3 r_135_0 rfl ?_
  refine xs_f 4 r_135_3 rfl ?_
  refine xs_ext 7 r_135_4 rfl rfl rfl rfl ?_
  refine xs_ald 8 0 r_135_7 (fun _ _ => rfl) rfl rfl rfl (j := 5) rfl (xarr_r rfl rfl) rfl (by omega) (by omega) rfl ?_
  refine xs_f 87 r_135_8 rfl ?_
  refine xs_thr r_135_87 rfl ?_
  exact k

