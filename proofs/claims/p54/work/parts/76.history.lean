/-! what the class keeps of earlier boards -/
def HiP (f : Nat → Option XE) (x pos cnt : Nat) (H : Nat → Int32) (K : Nat) : Prop := f x = some (.inr (5, [.ref (x + 1), .int (nI pos), .int (nI cnt)])) ∧ RA f 11 (x + 1) 9 (fun j => x + 2 + 69 * j) ∧ (pos < 9 ∧ cnt ≤ 8) ∧ (∀ j, j < 9 → ∃ G, Sim f (x + 2 + 69 * j) G K) ∧ ∀ m, m < cnt → Sim f (x + 2 + 69 * ((pos + 9 - cnt + m) % 9)) (fun j => H (m * 288 + j)) K
theorem HiP.fr {f g : Nat → Option XE} {x pos cnt K : Nat} {H : Nat → Int32} (h : HiP f x pos cnt H K) (e : ∀ c, x ≤ c → c < x + 623 → g c = f c) : HiP g x pos cnt H K := by
  obtain ⟨h1, h2, ⟨h3, h4⟩, h5, h6⟩ := h
  refine ⟨(e _ (by omega) (by omega)).trans h1, h2.fr (e _ (by omega) (by omega)), ⟨h3, h4⟩, fun j hj => ?_, fun m hm => (h6 m hm).fr (fun c c1 c2 => e c (by omega) (by omega))⟩
  obtain ⟨G, hG⟩ := h5 j hj
  exact ⟨G, hG.fr (fun c c1 c2 => e c (by omega) (by omega))⟩
theorem HiP.up {f : Nat → Option XE} {x pos cnt K M : Nat} {H : Nat → Int32} (h : HiP f x pos cnt H K) (e : K ≤ M) : HiP f x pos cnt H M := by
  obtain ⟨h1, h2, h3, h5, h6⟩ := h
  refine ⟨h1, h2, h3, fun j hj => ?_, fun m hm => (h6 m hm).up e⟩
  obtain ⟨G, hG⟩ := h5 j hj
  exact ⟨G, hG.up e⟩
theorem HiP.draft {f g : Nat → Option XE} {x pos cnt K : Nat} {H G : Nat → Int32} (h : HiP f x pos cnt H K) (hG : Sim g (x + 2 + 69 * pos) G K) (hF : Fr f g (x + 2 + 69 * pos) (x + 2 + 69 * pos + 69)) : HiP g x pos cnt H K := by
  obtain ⟨h1, h2, ⟨h3, h4⟩, h5, h6⟩ := h
  refine ⟨(hF _ (by omega)).trans h1, h2.fr (hF _ (by omega)), ⟨h3, h4⟩, fun j hj => ?_, fun m hm => (h6 m hm).fr (fun c c1 c2 => hF c (by omega))⟩
  by_cases z : j = pos
  · rw [z]; exact ⟨G, hG⟩
  · obtain ⟨G, hG⟩ := h5 j hj
    exact ⟨G, hG.fr (fun c c1 c2 => hF c (by omega))⟩
theorem HiP.keep {f g : Nat → Option XE} {x pos cnt p2 K : Nat} {H G : Nat → Int32} (h : HiP f x pos cnt H K) (hG : Sim f (x + 2 + 69 * pos) G K) (hp : p2 = (pos + 1) % 9) (hg : g x = some (.inr (5, [.ref (x + 1), .int (nI p2), .int (nI (min (cnt + 1) 8))]))) (hF : Fr f g x (x + 1)) : HiP g x ((pos + 1) % 9) (min (cnt + 1) 8) (psh cnt H G) K := by
  obtain ⟨h1, h2, ⟨h3, h4⟩, h5, h6⟩ := h
  subst hp
  refine ⟨hg, h2.fr (hF _ (by omega)), ⟨by omega, by omega⟩, fun j hj => ?_, fun m hm => ?_⟩
  · obtain ⟨G, hG⟩ := h5 j hj
    exact ⟨G, hG.fr (fun c c1 c2 => hF c (by omega))⟩
  · have hG2 := hG.fr (g := g) (fun c c1 c2 => hF c (by omega))
    by_cases z : cnt < 8
    · rw [show min (cnt + 1) 8 = cnt + 1 by omega] at hm ⊢
      by_cases y : m = cnt
      · rw [y, show ((pos + 1) % 9 + 9 - (cnt + 1) + cnt) % 9 = pos by omega]
        exact hG2.ext (fun j hj => by
          show psh cnt H G (cnt * 288 + j) = G j
          unfold psh
          rw [if_pos z, if_pos (by omega)]
          congr 1
          omega)
      · rw [show ((pos + 1) % 9 + 9 - (cnt + 1) + m) % 9 = (pos + 9 - cnt + m) % 9 by omega]
        exact ((h6 m (by omega)).fr (g := g) (fun c c1 c2 => hF c (by omega))).ext (fun j hj => by
          show psh cnt H G (m * 288 + j) = H (m * 288 + j)
          unfold psh
          rw [if_pos z, if_neg (by omega)])
    · have z8 : cnt = 8 := by omega
      subst z8
      rw [show min (8 + 1) 8 = 8 by omega] at hm ⊢
      by_cases y : m = 7
      · rw [y, show ((pos + 1) % 9 + 9 - 8 + 7) % 9 = pos by omega]
        exact hG2.ext (fun j hj => by
          show psh 8 H G (7 * 288 + j) = G j
          unfold psh
          rw [if_neg (by omega), if_neg (by omega), show 7 * 288 + j - 2016 = j by omega])
      · rw [show ((pos + 1) % 9 + 9 - 8 + m) % 9 = (pos + 9 - 8 + (m + 1)) % 9 by omega]
        exact ((h6 (m + 1) (by omega)).fr (g := g) (fun c c1 c2 => hF c (by omega))).ext (fun j hj => by
          show psh 8 H G (m * 288 + j) = H ((m + 1) * 288 + j)
          unfold psh
          rw [if_neg (by omega), if_pos (by omega), show m * 288 + j + 288 = (m + 1) * 288 + j by omega])
theorem HiP.back {f g : Nat → Option XE} {x pos cnt p2 b K : Nat} {H : Nat → Int32} (h : HiP f x pos cnt H K) (h0 : 0 < cnt) (hp : p2 = (pos + 8) % 9) (hg : g x = some (.inr (5, [.ref (x + 1), .int (nI p2), .int (nI (cnt - 1))]))) (hF : Fr f g x (x + 1)) : HiP g x ((pos + 8) % 9) (cnt - 1) H K := by
  obtain ⟨h1, h2, ⟨h3, h4⟩, h5, h6⟩ := h
  subst hp
  refine ⟨hg, h2.fr (hF _ (by omega)), ⟨by omega, by omega⟩, fun j hj => ?_, fun m hm => ?_⟩
  · obtain ⟨G, hG⟩ := h5 j hj
    exact ⟨G, hG.fr (fun c c1 c2 => hF c (by omega))⟩
  · rw [show ((pos + 8) % 9 + 9 - (cnt - 1) + m) % 9 = (pos + 9 - cnt + m) % 9 by omega]
    exact (h6 m (by omega)).fr (fun c c1 c2 => hF c (by omega))
theorem min8_E {n : Nat} (hn : n ≤ 8) : (if (8 : Int32) < nI n + 1 then 8 else nI n + 1) = nI (min (n + 1) 8) := by
  by_cases z : n = 8
  · subst z; rfl
  · rw [if_neg (mt (nI_ltN (nI_k 8) (nI_addE rfl (nI_k 1)) (by omega) (by omega)).mp (by omega)), show min (n + 1) 8 = n + 1 by omega]
    exact nI_addE rfl (nI_k 1)
theorem e_65 {S : XSc} {d : Nat} {h : XH} {Q : XO → XH → Prop} {x pos cnt K : Nat} {H : Nat → Int32} (hH : HiP h.1 x pos cnt H K) (h32 : 32 ≤ x) {b : Nat} {G : Nat → Int32} (hB : Sim h.1 b G K) (h33 : 32 ≤ b) (hb : b + 69 ≤ x ∨ x + 623 ≤ b) (k : ∀ f, HiP f x pos cnt H K → Sim f (x + 2 + 69 * pos) G K → Fr h.1 f (x + 2) (x + 623) → Q (.inl none) (f, h.2)) : xP S (d + 4) 65 0 [(0, .ref x), (1, .ref b)] [] h Q := by
  obtain ⟨g1, g2, ⟨g3, g4⟩, g5, g6⟩ := id hH
  obtain ⟨G9, hG9⟩ := g5 pos g3
  obtain ⟨fs9, o9⟩ := hG9.o
  refine xs_f 1 r_65_0 rfl ?_
  refine xs_get 4 r_65_1 rfl rfl (by first | assumption | exact xup_s | exact g1 | (refine (xup_n (by omega)).trans ?_; first | assumption | exact xup_s | exact g1) | (refine (xup_n (by omega)).trans ((xup_n (by omega)).trans ?_); first | assumption | exact xup_s | exact g1) | (refine (xup_n (by omega)).trans ((xup_n (by omega)).trans ((xup_n (by omega)).trans ?_)); first | assumption | exact xup_s | exact g1)) (by rfl) ?_
  refine xs_f 5 r_65_4 rfl ?_
  refine xs_get 8 r_65_5 rfl rfl (by first | assumption | exact xup_s | exact g1 | (refine (xup_n (by omega)).trans ?_; first | assumption | exact xup_s | exact g1) | (refine (xup_n (by omega)).trans ((xup_n (by omega)).trans ?_); first | assumption | exact xup_s | exact g1) | (refine (xup_n (by omega)).trans ((xup_n (by omega)).trans ((xup_n (by omega)).trans ?_)); first | assumption | exact xup_s | exact g1)) (by rfl) ?_
  refine xs_aldR 9 r_65_8 (fun _ _ => rfl) rfl rfl rfl (j := pos) rfl (by first | assumption | exact g2 | (refine RA.fr ?_ (xup_n (by omega)); first | assumption | exact g2) | (refine RA.fr (RA.fr ?_ (xup_n (by omega))) (xup_n (by omega)); first | assumption | exact g2) | (refine RA.fr (RA.fr (RA.fr ?_ (xup_n (by omega))) (xup_n (by omega))) (xup_n (by omega)); first | assumption | exact g2)) (by omega) ?_
  refine xs_f 10 r_65_9 rfl ?_
  refine xs_call (lv2 := [(0, _), (1, _)]) r_65_10 rfl rfl (by decide) (xcan_0 rfl rfl (by first | assumption | exact xup_s | exact g1 | (refine (xup_n (by omega)).trans ?_; first | assumption | exact xup_s | exact g1) | (refine (xup_n (by omega)).trans ((xup_n (by omega)).trans ?_); first | assumption | exact xup_s | exact g1) | (refine (xup_n (by omega)).trans ((xup_n (by omega)).trans ((xup_n (by omega)).trans ?_)); first | assumption | exact xup_s | exact g1)) (by rfl)) rfl (c_11s hG9 hB (by omega) h33 (by omega) (fun f x1 y1 => ?_))
  refine xK_0 rfl ?_
  refine xs_ret r_65_13 rfl ?_
  exact k f (hH.draft x1 y1) x1 (y1.wd (by omega) (by omega))

theorem e_66 {S : XSc} {d : Nat} {h : XH} {Q : XO → XH → Prop} {x pos cnt K : Nat} {H : Nat → Int32} (hH : HiP h.1 x pos cnt H K) (h32 : 32 ≤ x) {G : Nat → Int32} (hS : Sim h.1 (x + 2 + 69 * pos) G K) (k : ∀ f, HiP f x ((pos + 1) % 9) (min (cnt + 1) 8) (psh cnt H G) K → Fr h.1 f x (x + 1) → Q (.inl none) (f, h.2)) : xP S d 66 0 [(0, .ref x)] [] h Q := by
  obtain ⟨g1, g2, ⟨g3, g4⟩, g5, g6⟩ := id hH
  refine xs_f 1 r_66_0 rfl ?_
  refine xs_f 2 r_66_1 rfl ?_
  refine xs_get 5 r_66_2 rfl rfl (by first | assumption | exact xup_s | exact g1 | exact x1 | (refine (xup_n (by omega)).trans ?_; first | assumption | exact xup_s | exact g1 | exact x1) | (refine (xup_n (by omega)).trans ((xup_n (by omega)).trans ?_); first | assumption | exact xup_s | exact g1 | exact x1) | (refine (xup_n (by omega)).trans ((xup_n (by omega)).trans ((xup_n (by omega)).trans ?_)); first | assumption | exact xup_s | exact g1 | exact x1)) (by rfl) ?_
  refine xs_f 6 r_66_5 rfl ?_
  refine xs_f 7 r_66_6 rfl ?_
  refine xs_f 9 r_66_7 rfl ?_
  refine xs_if 21 12 r_66_9 rfl (fun hc1 => ?_) (fun hc1 => ?_)
  · have hc1 := (nI_leN (nI_k 9) (nI_addE rfl (nI_k 1)) (by omega) (by omega)).mp hc1
    refine xs_f 22 r_66_21 rfl ?_
    refine xs_putC 25 r_66_22 rfl (by first | assumption | exact xup_s | exact g1 | exact x1 | (refine (xup_n (by omega)).trans ?_; first | assumption | exact xup_s | exact g1 | exact x1) | (refine (xup_n (by omega)).trans ((xup_n (by omega)).trans ?_); first | assumption | exact xup_s | exact g1 | exact x1) | (refine (xup_n (by omega)).trans ((xup_n (by omega)).trans ((xup_n (by omega)).trans ?_)); first | assumption | exact xup_s | exact g1 | exact x1)) (by rfl) (by rfl) (fun f1 x1 y1 => ?_)
    refine xs_f 26 r_66_25 rfl ?_
    refine xs_f 27 r_66_26 rfl ?_
    refine xs_get 30 r_66_27 rfl rfl (by first | assumption | exact xup_s | exact g1 | exact x1 | (refine (xup_n (by omega)).trans ?_; first | assumption | exact xup_s | exact g1 | exact x1) | (refine (xup_n (by omega)).trans ((xup_n (by omega)).trans ?_); first | assumption | exact xup_s | exact g1 | exact x1) | (refine (xup_n (by omega)).trans ((xup_n (by omega)).trans ((xup_n (by omega)).trans ?_)); first | assumption | exact xup_s | exact g1 | exact x1)) (by rfl) ?_
    refine xs_f 31 r_66_30 rfl ?_
    refine xs_f 32 r_66_31 rfl ?_
    refine xs_f 34 r_66_32 rfl ?_
    refine xs_ext 37 r_66_34 rfl rfl rfl rfl ?_
    refine xs_putC 40 r_66_37 rfl (by first | assumption | exact xup_s | exact g1 | exact x1 | (refine (xup_n (by omega)).trans ?_; first | assumption | exact xup_s | exact g1 | exact x1) | (refine (xup_n (by omega)).trans ((xup_n (by omega)).trans ?_); first | assumption | exact xup_s | exact g1 | exact x1) | (refine (xup_n (by omega)).trans ((xup_n (by omega)).trans ((xup_n (by omega)).trans ?_)); first | assumption | exact xup_s | exact g1 | exact x1)) (by rfl) (by rfl) (fun f2 x2 y2 => ?_)
    refine xs_ret r_66_40 rfl ?_
    have e8 := min8_E g4
    first
      | exact k f2 (hH.keep hS (p2 := pos + 1) (by omega) (by rw [x2]; show some (Sum.inr (5, [Value.ref (x + 1), Value.int (nI pos + 1), Value.int (if (8 : Int32) < nI cnt + 1 then 8 else nI cnt + 1)])) = _; rw [e8, nI_succ]) (y1.tr y2)) (y1.tr y2)
      | exact k f2 (hH.keep hS (p2 := 0) (by omega) (by rw [x2]; show some (Sum.inr (5, [Value.ref (x + 1), Value.int 0, Value.int (if (8 : Int32) < nI cnt + 1 then 8 else nI cnt + 1)])) = _; rw [e8]; rfl) (y1.tr y2)) (y1.tr y2)
  · have hc1 := mt (nI_leN (nI_k 9) (nI_addE rfl (nI_k 1)) (by omega) (by omega)).mpr hc1
    refine xs_f 13 r_66_12 rfl ?_
    refine xs_get 16 r_66_13 rfl rfl (by first | assumption | exact xup_s | exact g1 | exact x1 | (refine (xup_n (by omega)).trans ?_; first | assumption | exact xup_s | exact g1 | exact x1) | (refine (xup_n (by omega)).trans ((xup_n (by omega)).trans ?_); first | assumption | exact xup_s | exact g1 | exact x1) | (refine (xup_n (by omega)).trans ((xup_n (by omega)).trans ((xup_n (by omega)).trans ?_)); first | assumption | exact xup_s | exact g1 | exact x1)) (by rfl) ?_
    refine xs_f 17 r_66_16 rfl ?_
    refine xs_f 18 r_66_17 rfl ?_
    refine xs_f 22 r_66_18 rfl ?_
    refine xs_putC 25 r_66_22 rfl (by first | assumption | exact xup_s | exact g1 | exact x1 | (refine (xup_n (by omega)).trans ?_; first | assumption | exact xup_s | exact g1 | exact x1) | (refine (xup_n (by omega)).trans ((xup_n (by omega)).trans ?_); first | assumption | exact xup_s | exact g1 | exact x1) | (refine (xup_n (by omega)).trans ((xup_n (by omega)).trans ((xup_n (by omega)).trans ?_)); first | assumption | exact xup_s | exact g1 | exact x1)) (by rfl) (by rfl) (fun f1 x1 y1 => ?_)
    refine xs_f 26 r_66_25 rfl ?_
    refine xs_f 27 r_66_26 rfl ?_
    refine xs_get 30 r_66_27 rfl rfl (by first | assumption | exact xup_s | exact g1 | exact x1 | (refine (xup_n (by omega)).trans ?_; first | assumption | exact xup_s | exact g1 | exact x1) | (refine (xup_n (by omega)).trans ((xup_n (by omega)).trans ?_); first | assumption | exact xup_s | exact g1 | exact x1) | (refine (xup_n (by omega)).trans ((xup_n (by omega)).trans ((xup_n (by omega)).trans ?_)); first | assumption | exact xup_s | exact g1 | exact x1)) (by rfl) ?_
    refine xs_f 31 r_66_30 rfl ?_
    refine xs_f 32 r_66_31 rfl ?_
    refine xs_f 34 r_66_32 rfl ?_
    refine xs_ext 37 r_66_34 rfl rfl rfl rfl ?_
    refine xs_putC 40 r_66_37 rfl (by first | assumption | exact xup_s | exact g1 | exact x1 | (refine (xup_n (by omega)).trans ?_; first | assumption | exact xup_s | exact g1 | exact x1) | (refine (xup_n (by omega)).trans ((xup_n (by omega)).trans ?_); first | assumption | exact xup_s | exact g1 | exact x1) | (refine (xup_n (by omega)).trans ((xup_n (by omega)).trans ((xup_n (by omega)).trans ?_)); first | assumption | exact xup_s | exact g1 | exact x1)) (by rfl) (by rfl) (fun f2 x2 y2 => ?_)
    refine xs_ret r_66_40 rfl ?_
    have e8 := min8_E g4
    first
      | exact k f2 (hH.keep hS (p2 := pos + 1) (by omega) (by rw [x2]; show some (Sum.inr (5, [Value.ref (x + 1), Value.int (nI pos + 1), Value.int (if (8 : Int32) < nI cnt + 1 then 8 else nI cnt + 1)])) = _; rw [e8, nI_succ]) (y1.tr y2)) (y1.tr y2)
      | exact k f2 (hH.keep hS (p2 := 0) (by omega) (by rw [x2]; show some (Sum.inr (5, [Value.ref (x + 1), Value.int 0, Value.int (if (8 : Int32) < nI cnt + 1 then 8 else nI cnt + 1)])) = _; rw [e8]; rfl) (y1.tr y2)) (y1.tr y2)

theorem e_67 {S : XSc} {d : Nat} {h : XH} {Q : XO → XH → Prop} {x pos cnt K : Nat} {H : Nat → Int32} (hH : HiP h.1 x pos cnt H K) (h32 : 32 ≤ x) {b : Nat} {G : Nat → Int32} (hB : Sim h.1 b G K) (h33 : 32 ≤ b) (hb : b + 69 ≤ x ∨ x + 623 ≤ b) (k : ∀ f, HiP f x ((pos + 1) % 9) (min (cnt + 1) 8) (psh cnt H G) K → Fr h.1 f x (x + 623) → Q (.inl none) (f, h.2)) : xP S (d + 5) 67 0 [(0, .ref x), (1, .ref b)] [] h Q := by
  have g1 := hH.1
  refine xs_f 1 r_67_0 rfl ?_
  refine xs_f 2 r_67_1 rfl ?_
  refine xs_call (lv2 := [(0, _), (1, _)]) r_67_2 rfl rfl (by decide) (xcan_0 rfl rfl (by first | assumption | exact xup_s | exact g1 | (refine (xup_n (by omega)).trans ?_; first | assumption | exact xup_s | exact g1) | (refine (xup_n (by omega)).trans ((xup_n (by omega)).trans ?_); first | assumption | exact xup_s | exact g1) | (refine (xup_n (by omega)).trans ((xup_n (by omega)).trans ((xup_n (by omega)).trans ?_)); first | assumption | exact xup_s | exact g1)) (by rfl)) rfl (e_65 hH h32 hB h33 hb (fun f1 x1 s1 y1 => ?_))
  refine xK_0 rfl ?_
  have g2 := x1.1
  refine xs_f 6 r_67_5 rfl ?_
  refine xs_call (lv2 := [(0, _)]) r_67_6 rfl rfl (by decide) (xcan_0 rfl rfl (by first | assumption | exact xup_s | exact g1 | (refine (xup_n (by omega)).trans ?_; first | assumption | exact xup_s | exact g1) | (refine (xup_n (by omega)).trans ((xup_n (by omega)).trans ?_); first | assumption | exact xup_s | exact g1) | (refine (xup_n (by omega)).trans ((xup_n (by omega)).trans ((xup_n (by omega)).trans ?_)); first | assumption | exact xup_s | exact g1)) (by rfl)) rfl (e_66 (h := (f1, h.2)) x1 h32 s1 (fun f2 x2 y2 => ?_))
  refine xK_0 rfl ?_
  refine xs_ret r_67_9 rfl ?_
  exact k f2 x2 ((y1.wd (by omega) (by omega)).tr (y2.wd (by omega) (by omega)))

theorem e_68 {S : XSc} {d : Nat} {h : XH} {Q : XO → XH → Prop} {x pos cnt K : Nat} {H : Nat → Int32} (hH : HiP h.1 x pos cnt H K) (h32 : 32 ≤ x) {b : Nat} {G G2 : Nat → Int32} (hB : Sim h.1 b G2 K) (h33 : 32 ≤ b) (hb : b + 69 ≤ x ∨ x + 623 ≤ b) (hS : Sim h.1 (x + 2 + 69 * pos) G K) (k : ∀ f, Sim f b G K → Fr h.1 f b (b + 69) → Q (.inl none) (f, h.2)) : xP S (d + 4) 68 0 [(0, .ref x), (1, .ref b)] [] h Q := by
  obtain ⟨g1, g2, ⟨g3, g4⟩, g5, g6⟩ := id hH
  obtain ⟨fs9, o9⟩ := hB.o
  refine xs_f 1 r_68_0 rfl ?_
  refine xs_f 2 r_68_1 rfl ?_
  refine xs_get 5 r_68_2 rfl rfl (by first | assumption | exact xup_s | exact g1 | (refine (xup_n (by omega)).trans ?_; first | assumption | exact xup_s | exact g1) | (refine (xup_n (by omega)).trans ((xup_n (by omega)).trans ?_); first | assumption | exact xup_s | exact g1) | (refine (xup_n (by omega)).trans ((xup_n (by omega)).trans ((xup_n (by omega)).trans ?_)); first | assumption | exact xup_s | exact g1)) (by rfl) ?_
  refine xs_f 6 r_68_5 rfl ?_
  refine xs_get 9 r_68_6 rfl rfl (by first | assumption | exact xup_s | exact g1 | (refine (xup_n (by omega)).trans ?_; first | assumption | exact xup_s | exact g1) | (refine (xup_n (by omega)).trans ((xup_n (by omega)).trans ?_); first | assumption | exact xup_s | exact g1) | (refine (xup_n (by omega)).trans ((xup_n (by omega)).trans ((xup_n (by omega)).trans ?_)); first | assumption | exact xup_s | exact g1)) (by rfl) ?_
  refine xs_aldR 10 r_68_9 (fun _ _ => rfl) rfl rfl rfl (j := pos) rfl (by first | assumption | exact g2 | (refine RA.fr ?_ (xup_n (by omega)); first | assumption | exact g2) | (refine RA.fr (RA.fr ?_ (xup_n (by omega))) (xup_n (by omega)); first | assumption | exact g2) | (refine RA.fr (RA.fr (RA.fr ?_ (xup_n (by omega))) (xup_n (by omega))) (xup_n (by omega)); first | assumption | exact g2)) (by omega) ?_
  refine xs_call (lv2 := [(0, _), (1, _)]) r_68_10 rfl rfl (by decide) (xcan_0 rfl rfl (by first | assumption | exact xup_s | exact g1 | (refine (xup_n (by omega)).trans ?_; first | assumption | exact xup_s | exact g1) | (refine (xup_n (by omega)).trans ((xup_n (by omega)).trans ?_); first | assumption | exact xup_s | exact g1) | (refine (xup_n (by omega)).trans ((xup_n (by omega)).trans ((xup_n (by omega)).trans ?_)); first | assumption | exact xup_s | exact g1)) (by rfl)) rfl (c_11s hB hS h33 (by omega) (by omega) (fun f x1 y1 => ?_))
  refine xK_0 rfl ?_
  refine xs_ret r_68_13 rfl ?_
  exact k f x1 y1

theorem e_69 {S : XSc} {d : Nat} {h : XH} {Q : XO → XH → Prop} {x pos cnt K : Nat} {H : Nat → Int32} (hH : HiP h.1 x pos cnt H K) (h32 : 32 ≤ x) {b : Nat} {G2 : Nat → Int32} (hB : Sim h.1 b G2 K) (h33 : 32 ≤ b) (hb : b + 69 ≤ x ∨ x + 623 ≤ b) (h0 : 0 < cnt) (k : ∀ f, HiP f x ((pos + 8) % 9) (cnt - 1) H K → Sim f b (fun j => H ((cnt - 1) * 288 + j)) K → (∀ c, c ≠ x → (c < b ∨ b + 69 ≤ c) → f c = h.1 c) → Q (.inl none) (f, h.2)) : xP S (d + 5) 69 0 [(0, .ref x), (1, .ref b)] [] h Q := by
  obtain ⟨g1, g2, ⟨g3, g4⟩, g5, g6⟩ := id hH
  refine xs_f 1 r_69_0 rfl ?_
  refine xs_f 2 r_69_1 rfl ?_
  refine xs_get 5 r_69_2 rfl rfl (by first | assumption | exact xup_s | exact g1 | exact x1 | (refine (xup_n (by omega)).trans ?_; first | assumption | exact xup_s | exact g1 | exact x1) | (refine (xup_n (by omega)).trans ((xup_n (by omega)).trans ?_); first | assumption | exact xup_s | exact g1 | exact x1) | (refine (xup_n (by omega)).trans ((xup_n (by omega)).trans ((xup_n (by omega)).trans ?_)); first | assumption | exact xup_s | exact g1 | exact x1)) (by rfl) ?_
  refine xs_if 17 8 r_69_5 rfl (fun hc1 => ?_) (fun hc1 => ?_)
  · have hc1 := (nI_leN rfl (nI_k 0) (by omega) (by omega)).mp hc1
    refine xs_f 19 r_69_17 rfl ?_
    refine xs_putC 22 r_69_19 rfl (by first | assumption | exact xup_s | exact g1 | exact x1 | (refine (xup_n (by omega)).trans ?_; first | assumption | exact xup_s | exact g1 | exact x1) | (refine (xup_n (by omega)).trans ((xup_n (by omega)).trans ?_); first | assumption | exact xup_s | exact g1 | exact x1) | (refine (xup_n (by omega)).trans ((xup_n (by omega)).trans ((xup_n (by omega)).trans ?_)); first | assumption | exact xup_s | exact g1 | exact x1)) (by rfl) (by rfl) (fun f1 x1 y1 => ?_)
    refine xs_f 23 r_69_22 rfl ?_
    refine xs_f 24 r_69_23 rfl ?_
    refine xs_get 27 r_69_24 rfl rfl (by first | assumption | exact xup_s | exact g1 | exact x1 | (refine (xup_n (by omega)).trans ?_; first | assumption | exact xup_s | exact g1 | exact x1) | (refine (xup_n (by omega)).trans ((xup_n (by omega)).trans ?_); first | assumption | exact xup_s | exact g1 | exact x1) | (refine (xup_n (by omega)).trans ((xup_n (by omega)).trans ((xup_n (by omega)).trans ?_)); first | assumption | exact xup_s | exact g1 | exact x1)) (by rfl) ?_
    refine xs_f 28 r_69_27 rfl ?_
    refine xs_f 29 r_69_28 rfl ?_
    refine xs_putC 32 r_69_29 rfl (by first | assumption | exact xup_s | exact g1 | exact x1 | (refine (xup_n (by omega)).trans ?_; first | assumption | exact xup_s | exact g1 | exact x1) | (refine (xup_n (by omega)).trans ((xup_n (by omega)).trans ?_); first | assumption | exact xup_s | exact g1 | exact x1) | (refine (xup_n (by omega)).trans ((xup_n (by omega)).trans ((xup_n (by omega)).trans ?_)); first | assumption | exact xup_s | exact g1 | exact x1)) (by rfl) (by rfl) (fun f2 x2 y2 => ?_)
    have hg : f2 x = some (.inr (5, [.ref (x + 1), .int (nI ((pos + 8) % 9)), .int (nI (cnt - 1))])) := by
      rw [x2]
      first
        | (show some (Sum.inr (5, [Value.ref (x + 1), Value.int (nI pos - 1), Value.int (nI cnt - 1)])) = _; rw [nI_subE (x := nI pos) (y := 1) rfl (nI_k 1) (by omega), nI_subE (x := nI cnt) (y := 1) rfl (nI_k 1) (by omega), show (pos + 8) % 9 = pos - 1 by omega])
        | (show some (Sum.inr (5, [Value.ref (x + 1), Value.int 8, Value.int (nI cnt - 1)])) = _; rw [nI_subE (x := nI cnt) (y := 1) rfl (nI_k 1) (by omega), show (pos + 8) % 9 = 8 by omega]; rfl)
    have y12 := y1.tr y2
    have hH2 := hH.back (b := b) h0 rfl hg y12
    have hS2 := (g6 (cnt - 1) (by omega)).fr (g := f2) (fun c c1 c2 => y12 c (by omega))
    rw [show (pos + 9 - cnt + (cnt - 1)) % 9 = (pos + 8) % 9 by omega] at hS2
    have hB2 := hB.fr (g := f2) (fun c c1 c2 => y12 c (by omega))
    refine xs_f 33 r_69_32 rfl ?_
    refine xs_f 34 r_69_33 rfl ?_
    refine xs_call (lv2 := [(0, _), (1, _)]) r_69_34 rfl rfl (by decide) (xcan_0 rfl rfl (by first | assumption | exact xup_s | exact hg | (refine (xup_n (by omega)).trans ?_; first | assumption | exact xup_s | exact hg) | (refine (xup_n (by omega)).trans ((xup_n (by omega)).trans ?_); first | assumption | exact xup_s | exact hg) | (refine (xup_n (by omega)).trans ((xup_n (by omega)).trans ((xup_n (by omega)).trans ?_)); first | assumption | exact xup_s | exact hg)) (by rfl)) rfl (e_68 (h := (f2, h.2)) hH2 h32 hB2 h33 hb hS2 (fun f3 x3 y3 => ?_))
    refine xK_0 rfl ?_
    refine xs_ret r_69_37 rfl ?_
    exact k f3 (hH2.fr (fun c c1 c2 => y3 c (by omega))) x3 (fun c c1 c2 => (y3 c c2).trans (y12 c (by omega)))
  · have hc1 := mt (nI_leN rfl (nI_k 0) (by omega) (by omega)).mpr hc1
    refine xs_f 9 r_69_8 rfl ?_
    refine xs_get 12 r_69_9 rfl rfl (by first | assumption | exact xup_s | exact g1 | exact x1 | (refine (xup_n (by omega)).trans ?_; first | assumption | exact xup_s | exact g1 | exact x1) | (refine (xup_n (by omega)).trans ((xup_n (by omega)).trans ?_); first | assumption | exact xup_s | exact g1 | exact x1) | (refine (xup_n (by omega)).trans ((xup_n (by omega)).trans ((xup_n (by omega)).trans ?_)); first | assumption | exact xup_s | exact g1 | exact x1)) (by rfl) ?_
    refine xs_f 13 r_69_12 rfl ?_
    refine xs_f 14 r_69_13 rfl ?_
    refine xs_f 19 r_69_14 rfl ?_
    refine xs_putC 22 r_69_19 rfl (by first | assumption | exact xup_s | exact g1 | exact x1 | (refine (xup_n (by omega)).trans ?_; first | assumption | exact xup_s | exact g1 | exact x1) | (refine (xup_n (by omega)).trans ((xup_n (by omega)).trans ?_); first | assumption | exact xup_s | exact g1 | exact x1) | (refine (xup_n (by omega)).trans ((xup_n (by omega)).trans ((xup_n (by omega)).trans ?_)); first | assumption | exact xup_s | exact g1 | exact x1)) (by rfl) (by rfl) (fun f1 x1 y1 => ?_)
    refine xs_f 23 r_69_22 rfl ?_
    refine xs_f 24 r_69_23 rfl ?_
    refine xs_get 27 r_69_24 rfl rfl (by first | assumption | exact xup_s | exact g1 | exact x1 | (refine (xup_n (by omega)).trans ?_; first | assumption | exact xup_s | exact g1 | exact x1) | (refine (xup_n (by omega)).trans ((xup_n (by omega)).trans ?_); first | assumption | exact xup_s | exact g1 | exact x1) | (refine (xup_n (by omega)).trans ((xup_n (by omega)).trans ((xup_n (by omega)).trans ?_)); first | assumption | exact xup_s | exact g1 | exact x1)) (by rfl) ?_
    refine xs_f 28 r_69_27 rfl ?_
    refine xs_f 29 r_69_28 rfl ?_
    refine xs_putC 32 r_69_29 rfl (by first | assumption | exact xup_s | exact g1 | exact x1 | (refine (xup_n (by omega)).trans ?_; first | assumption | exact xup_s | exact g1 | exact x1) | (refine (xup_n (by omega)).trans ((xup_n (by omega)).trans ?_); first | assumption | exact xup_s | exact g1 | exact x1) | (refine (xup_n (by omega)).trans ((xup_n (by omega)).trans ((xup_n (by omega)).trans ?_)); first | assumption | exact xup_s | exact g1 | exact x1)) (by rfl) (by rfl) (fun f2 x2 y2 => ?_)
    have hg : f2 x = some (.inr (5, [.ref (x + 1), .int (nI ((pos + 8) % 9)), .int (nI (cnt - 1))])) := by
      rw [x2]
      first
        | (show some (Sum.inr (5, [Value.ref (x + 1), Value.int (nI pos - 1), Value.int (nI cnt - 1)])) = _; rw [nI_subE (x := nI pos) (y := 1) rfl (nI_k 1) (by omega), nI_subE (x := nI cnt) (y := 1) rfl (nI_k 1) (by omega), show (pos + 8) % 9 = pos - 1 by omega])
        | (show some (Sum.inr (5, [Value.ref (x + 1), Value.int 8, Value.int (nI cnt - 1)])) = _; rw [nI_subE (x := nI cnt) (y := 1) rfl (nI_k 1) (by omega), show (pos + 8) % 9 = 8 by omega]; rfl)
    have y12 := y1.tr y2
    have hH2 := hH.back (b := b) h0 rfl hg y12
    have hS2 := (g6 (cnt - 1) (by omega)).fr (g := f2) (fun c c1 c2 => y12 c (by omega))
    rw [show (pos + 9 - cnt + (cnt - 1)) % 9 = (pos + 8) % 9 by omega] at hS2
    have hB2 := hB.fr (g := f2) (fun c c1 c2 => y12 c (by omega))
    refine xs_f 33 r_69_32 rfl ?_
    refine xs_f 34 r_69_33 rfl ?_
    refine xs_call (lv2 := [(0, _), (1, _)]) r_69_34 rfl rfl (by decide) (xcan_0 rfl rfl (by first | assumption | exact xup_s | exact hg | (refine (xup_n (by omega)).trans ?_; first | assumption | exact xup_s | exact hg) | (refine (xup_n (by omega)).trans ((xup_n (by omega)).trans ?_); first | assumption | exact xup_s | exact hg) | (refine (xup_n (by omega)).trans ((xup_n (by omega)).trans ((xup_n (by omega)).trans ?_)); first | assumption | exact xup_s | exact hg)) (by rfl)) rfl (e_68 (h := (f2, h.2)) hH2 h32 hB2 h33 hb hS2 (fun f3 x3 y3 => ?_))
    refine xK_0 rfl ?_
    refine xs_ret r_69_37 rfl ?_
    exact k f3 (hH2.fr (fun c c1 c2 => y3 c (by omega))) x3 (fun c c1 c2 => (y3 c c2).trans (y12 c (by omega)))

theorem e_70 {S : XSc} {d : Nat} {h : XH} {Q : XO → XH → Prop} {x pos cnt K : Nat} {H : Nat → Int32} (hH : HiP h.1 x pos cnt H K) (h32 : 32 ≤ x) (k : ∀ f, (∀ H2, HiP f x pos 0 H2 K) → Fr h.1 f x (x + 1) → Q (.inl none) (f, h.2)) : xP S d 70 0 [(0, .ref x)] [] h Q := by
  obtain ⟨g1, g2, ⟨g3, g4⟩, g5, g6⟩ := id hH
  refine xs_f 1 r_70_0 rfl ?_
  refine xs_f 2 r_70_1 rfl ?_
  refine xs_putC 5 r_70_2 rfl (by first | assumption | exact xup_s | exact g1 | (refine (xup_n (by omega)).trans ?_; first | assumption | exact xup_s | exact g1) | (refine (xup_n (by omega)).trans ((xup_n (by omega)).trans ?_); first | assumption | exact xup_s | exact g1) | (refine (xup_n (by omega)).trans ((xup_n (by omega)).trans ((xup_n (by omega)).trans ?_)); first | assumption | exact xup_s | exact g1)) (by rfl) (by rfl) (fun f1 x1 y1 => ?_)
  refine xs_ret r_70_5 rfl ?_
  exact k f1 (fun H2 => ⟨x1, g2.fr (y1 _ (by omega)), ⟨g3, by omega⟩, fun j hj => by
    obtain ⟨G, hG⟩ := g5 j hj
    exact ⟨G, hG.fr (fun c c1 c2 => y1 c (by omega))⟩, fun m hm => absurd hm (Nat.not_lt_zero _)⟩) y1

