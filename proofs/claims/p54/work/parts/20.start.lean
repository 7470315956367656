/-! the start: all together, and the law out of its run -/
noncomputable def xty (t : Nat) : FieldType := match t with
  | 0 => .int
  | 1 => .long
  | 2 => .double
  | 3 => .char
  | 4 => .byte
  | 8 => .array .int
  | 9 => .array .long
  | t => match xcl[t - 10]? with
    | some r => .object r.1
    | none => .object "EstimateContest$Command"
theorem xty_ok : xTY xcl xty := by
  refine ⟨rfl, rfl, rfl, rfl, rfl, rfl, fun t ht => ?_, fun c r hr => ?_, rfl⟩
  · unfold xty
    split <;> first | rfl | (exfalso; omega) | skip
    split <;> rfl
  · have hlt : c < 12 := (List.getElem?_eq_some_iff.mp hr).1
    match c, hlt, hr with
    | 0, _, hr => cases hr; rfl
    | 1, _, hr => cases hr; rfl
    | 2, _, hr => cases hr; rfl
    | 3, _, hr => cases hr; rfl
    | 4, _, hr => cases hr; rfl
    | 5, _, hr => cases hr; rfl
    | 6, _, hr => cases hr; rfl
    | 7, _, hr => cases hr; rfl
    | 8, _, hr => cases hr; rfl
    | 9, _, hr => cases hr; rfl
    | 10, _, hr => cases hr; rfl
    | 11, _, hr => cases hr; rfl
    | c + 12, h, _ => omega
def xro (L : Nat) (xs : Nat → Int32) (a : Nat) : Option (Nat × vp_A) := match a with
  | 12 => some (0, (L, .inl xs))
  | 13 => some (0, (6, .inl (fun k => xswF.getD k 0)))
  | 14 => some (0, (6, .inl (fun k => xswC.getD k 0)))
  | 15 => some (40, (6, .inr (.inr (.inr (.inr (fun k => some (6 + k)))))))
  | 22 => some (4, (100, .inl (fun k => xdO.getD k 0)))
  | 23 => some (4, (100, .inl (fun k => xdT.getD k 0)))
  | 24 => some (4, ((xfB 0).length, .inl (fun k => (xfB 0).getD k 0)))
  | 25 => some (4, ((xfB 1).length, .inl (fun k => (xfB 1).getD k 0)))
  | 26 => some (4, ((xfB 2).length, .inl (fun k => (xfB 2).getD k 0)))
  | 27 => some (4, ((xfB 3).length, .inl (fun k => (xfB 3).getD k 0)))
  | 28 => some (4, ((xfB 4).length, .inl (fun k => (xfB 4).getD k 0)))
  | 29 => some (4, ((xfB 5).length, .inl (fun k => (xfB 5).getD k 0)))
  | _ => none
def yro (L : Nat) (xs : Nat → Int32) (a : Nat) : Option (Nat × vp_A) := match a with
  | 52 => some (4, ((xfB 6).length, .inl (fun k => (xfB 6).getD k 0)))
  | 53 => some (4, ((xfB 7).length, .inl (fun k => (xfB 7).getD k 0)))
  | 54 => some (4, ((xfB 8).length, .inl (fun k => (xfB 8).getD k 0)))
  | 55 => some (4, ((xfB 9).length, .inl (fun k => (xfB 9).getD k 0)))
  | 56 => some (4, ((xfB 10).length, .inl (fun k => (xfB 10).getD k 0)))
  | 57 => some (4, ((xfB 11).length, .inl (fun k => (xfB 11).getD k 0)))
  | 58 => some (4, ((xfB 12).length, .inl (fun k => (xfB 12).getD k 0)))
  | 59 => some (4, ((xfB 13).length, .inl (fun k => (xfB 13).getD k 0)))
  | 60 => some (4, ((xfB 14).length, .inl (fun k => (xfB 14).getD k 0)))
  | 61 => some (4, ((xfB 15).length, .inl (fun k => (xfB 15).getD k 0)))
  | 62 => some (4, ((xfB 16).length, .inl (fun k => (xfB 16).getD k 0)))
  | 63 => some (4, ((xfB 17).length, .inl (fun k => (xfB 17).getD k 0)))
  | 64 => some (4, ((xfB 18).length, .inl (fun k => (xfB 18).getD k 0)))
  | 65 => some (4, ((xfB 19).length, .inl (fun k => (xfB 19).getD k 0)))
  | 66 => some (4, ((xfB 20).length, .inl (fun k => (xfB 20).getD k 0)))
  | 67 => some (4, ((xfB 21).length, .inl (fun k => (xfB 21).getD k 0)))
  | 68 => some (4, ((xfB 22).length, .inl (fun k => (xfB 22).getD k 0)))
  | 69 => some (4, ((xfB 23).length, .inl (fun k => (xfB 23).getD k 0)))
  | 70 => some (4, ((xfB 24).length, .inl (fun k => (xfB 24).getD k 0)))
  | 71 => some (4, ((xfB 25).length, .inl (fun k => (xfB 25).getD k 0)))
  | a => xro L xs a
theorem xro_T {s0 : State} {sa : Nat → Nat} {a t N : Nat} {f : Nat → Value} {z : vp_A} {ty : FieldType} (ha : a < 72) (hT : va_T ty (sa a) N f (xFn s0.heap.size) s0 s0.heap) (hty : xty t = ty) (hN : z.1 = N) (hf : ∀ j, f j = xs sa (xsl z j)) : a < 72 ∧ sa a < s0.heap.size ∧ ∃ cell : Cell, s0.heap[sa a]? = some cell ∧ s0.isArrayOf cell (xty t) ∧ cell.vm ≠ .unknown ∧ z.1 ≤ cell.slots.size ∧ cell.slots.size.toInt32 = Int32.ofNat z.1 ∧ ∀ j, j < z.1 → cell.slots[j]? = some (xs sa (xsl z j)) := by
  obtain ⟨cell, h1, h2, h3, h4, h5, h6, -⟩ := hT
  subst hN; subst hty
  exact ⟨ha, (Array.getElem?_eq_some_iff.mp h1).1, cell, h1, h2, h3, h4, h5, fun j hj => by rw [h6 j hj, hf j]⟩
theorem xro_ok {s0 : State} {A : Array Value} {sa : Nat → Nat} {L : Nat} {xs : Nat → Int32} (hw : xWd s0 A sa L xs) : xRO s0 xty sa 72 (yro L xs) := by
  obtain ⟨-, -, -, w4, wX, ⟨-, w13⟩, ⟨-, w14⟩, ⟨-, w15⟩, ⟨-, w22⟩, ⟨-, w23⟩, -, -, hb⟩ := hw
  intro a t x hx
  unfold yro at hx
  split at hx
  · cases hx; exact xro_T (by decide) (w4 6 (by decide)).2.2.2.2 rfl rfl (fun _ => rfl)
  · cases hx; exact xro_T (by decide) (w4 7 (by decide)).2.2.2.2 rfl rfl (fun _ => rfl)
  · cases hx; exact xro_T (by decide) (w4 8 (by decide)).2.2.2.2 rfl rfl (fun _ => rfl)
  · cases hx; exact xro_T (by decide) (w4 9 (by decide)).2.2.2.2 rfl rfl (fun _ => rfl)
  · cases hx; exact xro_T (by decide) (w4 10 (by decide)).2.2.2.2 rfl rfl (fun _ => rfl)
  · cases hx; exact xro_T (by decide) (w4 11 (by decide)).2.2.2.2 rfl rfl (fun _ => rfl)
  · cases hx; exact xro_T (by decide) (w4 12 (by decide)).2.2.2.2 rfl rfl (fun _ => rfl)
  · cases hx; exact xro_T (by decide) (w4 13 (by decide)).2.2.2.2 rfl rfl (fun _ => rfl)
  · cases hx; exact xro_T (by decide) (w4 14 (by decide)).2.2.2.2 rfl rfl (fun _ => rfl)
  · cases hx; exact xro_T (by decide) (w4 15 (by decide)).2.2.2.2 rfl rfl (fun _ => rfl)
  · cases hx; exact xro_T (by decide) (w4 16 (by decide)).2.2.2.2 rfl rfl (fun _ => rfl)
  · cases hx; exact xro_T (by decide) (w4 17 (by decide)).2.2.2.2 rfl rfl (fun _ => rfl)
  · cases hx; exact xro_T (by decide) (w4 18 (by decide)).2.2.2.2 rfl rfl (fun _ => rfl)
  · cases hx; exact xro_T (by decide) (w4 19 (by decide)).2.2.2.2 rfl rfl (fun _ => rfl)
  · cases hx; exact xro_T (by decide) (w4 20 (by decide)).2.2.2.2 rfl rfl (fun _ => rfl)
  · cases hx; exact xro_T (by decide) (w4 21 (by decide)).2.2.2.2 rfl rfl (fun _ => rfl)
  · cases hx; exact xro_T (by decide) (w4 22 (by decide)).2.2.2.2 rfl rfl (fun _ => rfl)
  · cases hx; exact xro_T (by decide) (w4 23 (by decide)).2.2.2.2 rfl rfl (fun _ => rfl)
  · cases hx; exact xro_T (by decide) (w4 24 (by decide)).2.2.2.2 rfl rfl (fun _ => rfl)
  · cases hx; exact xro_T (by decide) (w4 25 (by decide)).2.2.2.2 rfl rfl (fun _ => rfl)
  unfold xro at hx
  split at hx
  · cases hx
    obtain ⟨scr, h1, h2, h3, h4, h5⟩ := wX
    exact ⟨by decide, hb, scr, h1, h2, h3, by show L ≤ _; omega, by rw [h4], fun j hj => h5 j hj⟩
  · cases hx; exact xro_T (by decide) w13 rfl rfl (fun _ => rfl)
  · cases hx; exact xro_T (by decide) w14 rfl rfl (fun _ => rfl)
  · cases hx; exact xro_T (by decide) w15 rfl rfl (fun _ => rfl)
  · cases hx; exact xro_T (by decide) w22 rfl rfl (fun _ => rfl)
  · cases hx; exact xro_T (by decide) w23 rfl rfl (fun _ => rfl)
  · cases hx; exact xro_T (by decide) (w4 0 (by decide)).2.2.2.2 rfl rfl (fun _ => rfl)
  · cases hx; exact xro_T (by decide) (w4 1 (by decide)).2.2.2.2 rfl rfl (fun _ => rfl)
  · cases hx; exact xro_T (by decide) (w4 2 (by decide)).2.2.2.2 rfl rfl (fun _ => rfl)
  · cases hx; exact xro_T (by decide) (w4 3 (by decide)).2.2.2.2 rfl rfl (fun _ => rfl)
  · cases hx; exact xro_T (by decide) (w4 4 (by decide)).2.2.2.2 rfl rfl (fun _ => rfl)
  · cases hx; exact xro_T (by decide) (w4 5 (by decide)).2.2.2.2 rfl rfl (fun _ => rfl)
  · cases hx
theorem gk_0 : Cond.instantiable RX1 2 ∈ Gw := xg (by decide +kernel) rfl
theorem gk_1 : Cond.instantiable RX2 9 ∈ Gw := xg (by decide +kernel) rfl
theorem gk_2 : Cond.instantiable RX4 5 ∈ Gw := xg (by decide +kernel) rfl
theorem gk_3 : Cond.instantiable RX5 3 ∈ Gw := xg (by decide +kernel) rfl
theorem gk_4 : Cond.instantiable RX6 5 ∈ Gw := xg (by decide +kernel) rfl
theorem gk_5 : Cond.instantiable RX8 3 ∈ Gw := xg (by decide +kernel) rfl
theorem gk_6 : Cond.instantiable RX9 4 ∈ Gw := xg (by decide +kernel) rfl
theorem gk_7 : Cond.instantiable RX10 4 ∈ Gw := xg (by decide +kernel) rfl
theorem gk_8 : Cond.instantiable RX11 9 ∈ Gw := xg (by decide +kernel) rfl
theorem gk_9 : Cond.instantiable RX1 2 ∈ Gw := xg (by decide +kernel) rfl
theorem gk_10 : Cond.instantiable RJ4 4 ∈ Gw := xg (by decide +kernel) rfl
theorem gk_11 : Cond.instantiable RJ0 4 ∈ Gw := xg (by decide +kernel) rfl
theorem xGx_ok {s0 : State} {A : Array Value} (hts : ∀ w ∈ lw_tbl, w.before A s0 = true) : ∀ w ∈ xGx, w.before A s0 = true := by
  have hsel : (Cond.selects RJ4 yJ5_isLatin1_aae02 yJ5_isLatin1_aae02).before A s0 = true := hts _ (by decide +kernel)
  refine List.forall_mem_cons.mpr ⟨?_, List.forall_mem_cons.mpr ⟨?_, List.forall_mem_cons.mpr ⟨?_, List.forall_mem_cons.mpr ⟨?_, fun _ h => nomatch h⟩⟩⟩⟩
  · exact xselP ⟨by decide +kernel, by decide +kernel⟩ hsel rfl (hts _ (by decide +kernel)) (hts _ (by decide +kernel))
  · exact xselP ⟨by decide +kernel, by decide +kernel⟩ hsel rfl (hts _ (by decide +kernel)) (hts _ (by decide +kernel))
  · exact xselP ⟨by decide +kernel, by decide +kernel⟩ hsel rfl (hts _ (by decide +kernel)) (hts _ (by decide +kernel))
  · exact xselP ⟨by decide +kernel, by decide +kernel⟩ hsel rfl (hts _ (by decide +kernel)) (hts _ (by decide +kernel))
theorem xGw_ok {s0 : State} {A : Array Value} (hts : ∀ w ∈ lw_tbl, w.before A s0 = true) : ∀ w ∈ Gw, w.before A s0 = true := fun w hw => by
  rcases List.mem_append.mp (List.mem_filter.mp hw).1 with h | h
  · exact xGx_ok hts w h
  · exact hts w h
theorem xcls_ok {s0 : State} {A : Array Value} (hG : ∀ w ∈ Gw, w.before A s0 = true) : ∃ D : va_G, ∀ ci q, xcl[ci]? = some q → u_Kn s0 q.1 q.2.1 q.2.2 (D.1 ci) (D.2 ci) := by
  have h0 : ∀ ci : Nat, ∃ z : ClassId × (Nat → Nat), ∀ q, xcl[ci]? = some q → u_Kn s0 q.1 q.2.1 q.2.2 z.1 z.2 := by
    intro ci
    by_cases hlt : ci < 12
    · match ci, hlt with
      | 0, _ => obtain ⟨c, i, h⟩ := u_known (C := RX1) (T := TX1) (N := 2) (n := 2) hG uw_RX1 (hG _ gk_0); exact ⟨(c, i), fun q hq => by cases hq; exact h⟩
      | 1, _ => obtain ⟨c, i, h⟩ := u_known (C := RX2) (T := TX2) (N := 9) (n := 9) hG uw_RX2 (hG _ gk_1); exact ⟨(c, i), fun q hq => by cases hq; exact h⟩
      | 2, _ => obtain ⟨c, i, h⟩ := u_known (C := RX4) (T := TX4) (N := 5) (n := 5) hG uw_RX4 (hG _ gk_2); exact ⟨(c, i), fun q hq => by cases hq; exact h⟩
      | 3, _ => obtain ⟨c, i, h⟩ := u_known (C := RX5) (T := TX5) (N := 3) (n := 3) hG uw_RX5 (hG _ gk_3); exact ⟨(c, i), fun q hq => by cases hq; exact h⟩
      | 4, _ => obtain ⟨c, i, h⟩ := u_known (C := RX6) (T := TX6) (N := 5) (n := 5) hG uw_RX6 (hG _ gk_4); exact ⟨(c, i), fun q hq => by cases hq; exact h⟩
      | 5, _ => obtain ⟨c, i, h⟩ := u_known (C := RX8) (T := TX8) (N := 3) (n := 3) hG uw_RX8 (hG _ gk_5); exact ⟨(c, i), fun q hq => by cases hq; exact h⟩
      | 6, _ => obtain ⟨c, i, h⟩ := u_known (C := RX9) (T := TX9) (N := 4) (n := 4) hG uw_RX9 (hG _ gk_6); exact ⟨(c, i), fun q hq => by cases hq; exact h⟩
      | 7, _ => obtain ⟨c, i, h⟩ := u_known (C := RX10) (T := TX10) (N := 4) (n := 4) hG uw_RX10 (hG _ gk_7); exact ⟨(c, i), fun q hq => by cases hq; exact h⟩
      | 8, _ => obtain ⟨c, i, h⟩ := u_known (C := RX11) (T := TX11) (N := 9) (n := 9) hG uw_RX11 (hG _ gk_8); exact ⟨(c, i), fun q hq => by cases hq; exact h⟩
      | 9, _ => obtain ⟨c, i, h⟩ := u_known (C := RX1) (T := TX1) (N := 2) (n := 2) hG uw_RX1 (hG _ gk_9); exact ⟨(c, i), fun q hq => by cases hq; exact h⟩
      | 10, _ => obtain ⟨c, i, h⟩ := u_known (C := RJ4) (T := TJ4) (N := 4) (n := 4) hG uw_RJ4 (hG _ gk_10); exact ⟨(c, i), fun q hq => by cases hq; exact h⟩
      | 11, _ => obtain ⟨c, i, h⟩ := u_known (C := RJ0) (T := TJ0) (N := 4) (n := 4) hG uw_RJ0 (hG _ gk_11); exact ⟨(c, i), fun q hq => by cases hq; exact h⟩
      | c + 12, h => omega
    · exact ⟨(0, fun _ => 0), fun q hq => absurd (List.getElem?_eq_some_iff.mp hq).1 hlt⟩
  obtain ⟨f, hf⟩ := Classical.axiomOfChoice h0
  exact ⟨(fun ci => (f ci).1, fun ci => (f ci).2), hf⟩
theorem g6 : ∀ E, E < 6 → Cond.castable (xEn E) (xEn E) ∈ lw_tbl := by decide +kernel
theorem g7 : ∀ E, E < 6 → ∀ F, F < 6 → (F = 3 ∨ E = F ∨ Cond.not (Cond.castable (xEn E) (xEn F)) ∈ xFL) := by decide +kernel
theorem g8 : Cond.laysStatic Bundle.tN "UNASSIGNED_STACK" Bundle.steD ∈ lw_tbl ∧ Cond.laysStatic Bundle.tN "SUPPRESSED_SENTINEL" Bundle.listD ∈ lw_tbl ∧ Cond.initialized Bundle.tN ∈ lw_tbl ∧ Cond.isRef (.static Bundle.tN "UNASSIGNED_STACK" Bundle.steD) ∈ xFL ∧ Cond.isRef (.static Bundle.tN "SUPPRESSED_SENTINEL" Bundle.listD) ∈ xFL := ⟨by decide +kernel, by decide +kernel, by decide +kernel, by decide +kernel, by decide +kernel⟩
theorem g9 : Cond.laysStatic "jdk/internal/util/Preconditions" "SIOOBE_FORMATTER" "Ljava/util/function/BiFunction;" ∈ lw_tbl ∧ Cond.initialized "jdk/internal/util/Preconditions" ∈ lw_tbl ∧ Cond.isRef (.static "jdk/internal/util/Preconditions" "SIOOBE_FORMATTER" "Ljava/util/function/BiFunction;") ∈ xFL := ⟨by decide +kernel, by decide +kernel, by decide +kernel⟩
theorem xgl_ok {s : State} {b L : Nat} {xs : Nat → Int32} (l : Launch) (hflags : l.flags = flags0) (hts : ∀ w ∈ lw_tbl, w.before #[Value.ref b] s = true) (hX : va_X b L xs s s.heap) (hbl : b < s.heap.size) (hgv : (Jvm.Cond.and given_1 narrow_1).before #[Value.ref b] s = true) : ∃ (D : va_G) (sa : Nat → Nat), sa 12 = b ∧ xGl s D xcl xty sa 72 (yro L xs) Gw Gn 12 xT xM l yX xokX0 := by
  have hs : ∀ c ∈ xFL, c.before #[Value.ref b] s = true := flat_of_before _ hgv
  have hA : ∀ q : Nat, q < s.heap.size → ¬ s.heap.size ≤ q := fun q h z => absurd h (Nat.not_lt.mpr z)
  obtain ⟨sa, hw, hsb⟩ := xworld hgv hX hbl
  obtain ⟨D, hD⟩ := xcls_ok (xGw_ok hts)
  have hz : xzq s.heap.size s s.heap := (vx_Zqof (hts _ g9.1) (hts _ g9.2.1) (hs _ g9.2.2) hA).1
  refine ⟨D, sa, hsb, xall ⟨gss hts hw, trs hts hs, gls hts hw, _, hts⟩ (fun E hE => va_Nw.of rfl (hts _ (g6 E hE))) (fun E F hE hF h3 hne => va_Nc.of (hs _ (((g7 E hE F hF).resolve_left h3).resolve_left hne))), ?_, hD, xty_ok, hw.2.2.2.2.2.2.2.2.2.2.2.1, xro_ok hw, ?_, fun a b ha hb e => hw.2.1 a b ha hb e, vx_Zqof (hts _ g8.1) (hts _ g8.2.2.1) (hs _ g8.2.2.2.1) hA, vx_Zqof (hts _ g8.2.1) (hts _ g8.2.2.1) (hs _ g8.2.2.2.2) hA, yX_up, yX_ok hw hz, ?_, (RJ0, TJ0, 4), rfl, rfl⟩
  · intro w hw
    exact va_Nw.of (List.mem_filter.mp hw).2 (hts w (List.mem_filter.mp hw).1)
  · unfold Launch.stackTraces
    rw [hflags]
    decide +kernel
  · intro b h1
    obtain ⟨j, hj, rfl⟩ : ∃ j, j < 26 ∧ b = xsN j := by
      rcases h1 with h1 | h1
      · exact ⟨b - 16, by omega, by unfold xsN; rw [if_pos (by omega)]; omega⟩
      · exact ⟨b - 26, by omega, by unfold xsN; rw [if_neg (by omega)]; omega⟩
    obtain ⟨cell, o1, o2, o3, o4⟩ := (hw.2.2.2.1 j hj).2.1
    exact ⟨cell, o1, o2, o3⟩
/-- what remains: the run of the law, on every script -/
def xPure : Prop := ∀ (L : Nat) (xs : Nat → Int32), L ≤ 260 → ∃ (n : Nat) (h : XH), xgo xT yX 12 72 (yro L xs) n 40 286 0 [(0, .ref 12)] [] (fun _ => none, (some 0, (0, 0))) = some (.inl (some (.int 1)), h) ∧ h.2.2.1 ≤ 8000 ∧ h.2.2.2 ≤ 80000
