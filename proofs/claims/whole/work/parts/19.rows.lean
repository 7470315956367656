/-! throws: their rows from the start on -/
def xdw (w : Cond) : Bool := match w with
  | .declares _ => true
  | _ => false
theorem xdw_of {w : Cond} (h : xdw w = true) : ∃ x, w = .declares x := by
  unfold xdw at h
  split at h
  · exact ⟨_, rfl⟩
  · cases h
theorem tw_use {l : List Cond} {X : String} (h : l.all (fun w => (decide (w ∈ lw_tbl) && (goodWord w || (decide (w = Cond.castable X X) || xdw w))) && vx_ot w) = true) {s0 : State} {A : Array Value} (hts : ∀ w ∈ lw_tbl, w.before A s0 = true) : (∀ w ∈ l, vx_ot w = true) ∧ ∀ (U : State) (a' : Array Value), s0.WarmedH U.vm → ∀ w ∈ l, w.before a' U = true := by
  have h1 : ∀ w ∈ l, (w ∈ lw_tbl ∧ (goodWord w = true ∨ (w = Cond.castable X X ∨ xdw w = true))) ∧ vx_ot w = true := fun w hw => by
    have h2 := List.all_eq_true.mp h w hw
    obtain ⟨h3, h4⟩ := Bool.and_eq_true_iff.mp h2
    obtain ⟨h5, h6⟩ := Bool.and_eq_true_iff.mp h3
    refine ⟨⟨of_decide_eq_true h5, ?_⟩, h4⟩
    rcases Bool.or_eq_true_iff.mp h6 with h | h
    · exact Or.inl h
    · rcases Bool.or_eq_true_iff.mp h with h | h
      · exact Or.inr (Or.inl (of_decide_eq_true h))
      · exact Or.inr (Or.inr h)
  refine ⟨fun w hw => (h1 w hw).2, fun U a' hW w hw => ?_⟩
  obtain ⟨⟨h2, h3⟩, -⟩ := h1 w hw
  rcases h3 with h3 | h3 | h3
  · exact word_at hW (good_of_word h3) (hts w h2)
  · subst h3
    exact va_tabs rfl rfl (va_Nw.warmC hW (va_Nw.of rfl (hts _ h2)))
  · obtain ⟨x, rfl⟩ := xdw_of h3
    exact va_tabs rfl rfl (va_Nw.warmD hW (va_Nw.of rfl (hts _ h2)))
theorem tw_0 : (Cond.classLink "EstimateContest" 132 "java/util/NoSuchElementException" :: Cond.initialized "java/util/NoSuchElementException" :: vx_atS "EstimateContest" 136 "java/util/NoSuchElementException" ["java/lang/RuntimeException", "java/lang/Exception"]).all (fun w => (decide (w ∈ lw_tbl) && (goodWord w || (decide (w = Cond.castable "java/util/NoSuchElementException" "java/util/NoSuchElementException") || xdw w))) && vx_ot w) = true := by decide +kernel
theorem tw_1 : (Cond.classLink "EstimateContest" 163 "java/lang/IndexOutOfBoundsException" :: Cond.initialized "java/lang/IndexOutOfBoundsException" :: vx_atS "EstimateContest" 167 "java/lang/IndexOutOfBoundsException" ["java/lang/RuntimeException", "java/lang/Exception"]).all (fun w => (decide (w ∈ lw_tbl) && (goodWord w || (decide (w = Cond.castable "java/lang/IndexOutOfBoundsException" "java/lang/IndexOutOfBoundsException") || xdw w))) && vx_ot w) = true := by decide +kernel
theorem tw_2 : (Cond.classLink "EstimateContest" 203 "java/lang/IllegalArgumentException" :: Cond.initialized "java/lang/IllegalArgumentException" :: vx_atS "EstimateContest" 207 "java/lang/IllegalArgumentException" ["java/lang/RuntimeException", "java/lang/Exception"]).all (fun w => (decide (w ∈ lw_tbl) && (goodWord w || (decide (w = Cond.castable "java/lang/IllegalArgumentException" "java/lang/IllegalArgumentException") || xdw w))) && vx_ot w) = true := by decide +kernel
theorem tw_3 : (Cond.classLink "EstimateContest" 254 "java/lang/ArithmeticException" :: Cond.initialized "java/lang/ArithmeticException" :: vx_atS "EstimateContest" 258 "java/lang/ArithmeticException" ["java/lang/RuntimeException", "java/lang/Exception"]).all (fun w => (decide (w ∈ lw_tbl) && (goodWord w || (decide (w = Cond.castable "java/lang/ArithmeticException" "java/lang/ArithmeticException") || xdw w))) && vx_ot w) = true := by decide +kernel
theorem tw_4 : (Cond.classLink "EstimateContest" 299 "java/lang/IllegalStateException" :: Cond.initialized "java/lang/IllegalStateException" :: vx_atS "EstimateContest" 303 "java/lang/IllegalStateException" ["java/lang/RuntimeException", "java/lang/Exception"]).all (fun w => (decide (w ∈ lw_tbl) && (goodWord w || (decide (w = Cond.castable "java/lang/IllegalStateException" "java/lang/IllegalStateException") || xdw w))) && vx_ot w) = true := by decide +kernel
theorem tw_5 : (Cond.classLink "EstimateContest" 328 "java/lang/UnsupportedOperationException" :: Cond.initialized "java/lang/UnsupportedOperationException" :: vx_atS "EstimateContest" 332 "java/lang/UnsupportedOperationException" ["java/lang/RuntimeException", "java/lang/Exception"]).all (fun w => (decide (w ∈ lw_tbl) && (goodWord w || (decide (w = Cond.castable "java/lang/UnsupportedOperationException" "java/lang/UnsupportedOperationException") || xdw w))) && vx_ot w) = true := by decide +kernel
theorem ts_0 : Cond.stringRef "EstimateContest" 134 "no such position" ∈ lw_tbl ∧ Cond.exactly (.string "EstimateContest" 134) "java/lang/String" ∈ xFL := ⟨by decide +kernel, by decide +kernel⟩
theorem ts_1 : Cond.stringRef "EstimateContest" 151 "no such open question" ∈ lw_tbl ∧ Cond.exactly (.string "EstimateContest" 151) "java/lang/String" ∈ xFL := ⟨by decide +kernel, by decide +kernel⟩
theorem ts_2 : Cond.stringRef "EstimateContest" 165 "no such rank" ∈ lw_tbl ∧ Cond.exactly (.string "EstimateContest" 165) "java/lang/String" ∈ xFL := ⟨by decide +kernel, by decide +kernel⟩
theorem ts_3 : Cond.stringRef "EstimateContest" 205 "the value is out of range" ∈ lw_tbl ∧ Cond.exactly (.string "EstimateContest" 205) "java/lang/String" ∈ xFL := ⟨by decide +kernel, by decide +kernel⟩
theorem ts_4 : Cond.stringRef "EstimateContest" 233 "no such settled question" ∈ lw_tbl ∧ Cond.exactly (.string "EstimateContest" 233) "java/lang/String" ∈ xFL := ⟨by decide +kernel, by decide +kernel⟩
theorem ts_5 : Cond.stringRef "EstimateContest" 256 "no settled estimates" ∈ lw_tbl ∧ Cond.exactly (.string "EstimateContest" 256) "java/lang/String" ∈ xFL := ⟨by decide +kernel, by decide +kernel⟩
theorem ts_6 : Cond.stringRef "EstimateContest" 265 "no player has a settled estimate" ∈ lw_tbl ∧ Cond.exactly (.string "EstimateContest" 265) "java/lang/String" ∈ xFL := ⟨by decide +kernel, by decide +kernel⟩
theorem ts_7 : Cond.stringRef "EstimateContest" 284 "no settled estimates of this confidence" ∈ lw_tbl ∧ Cond.exactly (.string "EstimateContest" 284) "java/lang/String" ∈ xFL := ⟨by decide +kernel, by decide +kernel⟩
theorem ts_8 : Cond.stringRef "EstimateContest" 301 "the input buffer is full" ∈ lw_tbl ∧ Cond.exactly (.string "EstimateContest" 301) "java/lang/String" ∈ xFL := ⟨by decide +kernel, by decide +kernel⟩
theorem ts_9 : Cond.stringRef "EstimateContest" 317 "the text is malformed" ∈ lw_tbl ∧ Cond.exactly (.string "EstimateContest" 317) "java/lang/String" ∈ xFL := ⟨by decide +kernel, by decide +kernel⟩
theorem ts_10 : Cond.stringRef "EstimateContest" 330 "a command cannot be carried out" ∈ lw_tbl ∧ Cond.exactly (.string "EstimateContest" 330) "java/lang/String" ∈ xFL := ⟨by decide +kernel, by decide +kernel⟩
theorem ts_11 : Cond.stringRef "EstimateContest" 336 "no text was malformed" ∈ lw_tbl ∧ Cond.exactly (.string "EstimateContest" 336) "java/lang/String" ∈ xFL := ⟨by decide +kernel, by decide +kernel⟩
theorem ts_12 : Cond.stringRef "EstimateContest" 338 "no command failed" ∈ lw_tbl ∧ Cond.exactly (.string "EstimateContest" 338) "java/lang/String" ∈ xFL := ⟨by decide +kernel, by decide +kernel⟩
theorem ts_13 : Cond.stringRef "EstimateContest" 356 "no such character" ∈ lw_tbl ∧ Cond.exactly (.string "EstimateContest" 356) "java/lang/String" ∈ xFL := ⟨by decide +kernel, by decide +kernel⟩
theorem ts_14 : Cond.stringRef "EstimateContest" 363 "no call can be undone" ∈ lw_tbl ∧ Cond.exactly (.string "EstimateContest" 363) "java/lang/String" ∈ xFL := ⟨by decide +kernel, by decide +kernel⟩
theorem ts_15 : Cond.stringRef "EstimateContest" 371 "no state was saved" ∈ lw_tbl ∧ Cond.exactly (.string "EstimateContest" 371) "java/lang/String" ∈ xFL := ⟨by decide +kernel, by decide +kernel⟩
theorem ts_16 : Cond.stringRef "EstimateContest" 384 "no such player" ∈ lw_tbl ∧ Cond.exactly (.string "EstimateContest" 384) "java/lang/String" ∈ xFL := ⟨by decide +kernel, by decide +kernel⟩
theorem ts_17 : Cond.stringRef "EstimateContest" 386 "a number is out of range" ∈ lw_tbl ∧ Cond.exactly (.string "EstimateContest" 386) "java/lang/String" ∈ xFL := ⟨by decide +kernel, by decide +kernel⟩
theorem ts_18 : Cond.stringRef "EstimateContest" 388 "the player has withdrawn" ∈ lw_tbl ∧ Cond.exactly (.string "EstimateContest" 388) "java/lang/String" ∈ xFL := ⟨by decide +kernel, by decide +kernel⟩
theorem ts_19 : Cond.stringRef "EstimateContest" 390 "the state does not allow it" ∈ lw_tbl ∧ Cond.exactly (.string "EstimateContest" 390) "java/lang/String" ∈ xFL := ⟨by decide +kernel, by decide +kernel⟩
theorem ts_20 : Cond.stringRef "EstimateContest" 395 "the confidence is out of range" ∈ lw_tbl ∧ Cond.exactly (.string "EstimateContest" 395) "java/lang/String" ∈ xFL := ⟨by decide +kernel, by decide +kernel⟩
theorem ts_21 : Cond.stringRef "EstimateContest" 404 "the question has no estimates" ∈ lw_tbl ∧ Cond.exactly (.string "EstimateContest" 404) "java/lang/String" ∈ xFL := ⟨by decide +kernel, by decide +kernel⟩
theorem ts_22 : Cond.stringRef "EstimateContest" 406 "the player has made no estimate of the question" ∈ lw_tbl ∧ Cond.exactly (.string "EstimateContest" 406) "java/lang/String" ∈ xFL := ⟨by decide +kernel, by decide +kernel⟩
theorem ts_use {own tx : String} {k : Nat} (h : Cond.stringRef own k tx ∈ lw_tbl ∧ Cond.exactly (.string own k) "java/lang/String" ∈ xFL) {s0 : State} {A : Array Value} (hts : ∀ w ∈ lw_tbl, w.before A s0 = true) (hs : ∀ c ∈ xFL, c.before A s0 = true) : ∃ sb, vk_R own k tx sb s0 := by
  obtain ⟨a, c, cell, kk, q1, -⟩ := Cond.exactly_spec (args := A) (first := s0) (o := none) (s := s0) (idx := []) (hs _ h.2)
  exact ⟨a, vk_R.of (hts _ h.1) q1⟩
theorem tr_0 {s0 : State} {A : Array Value} (hts : ∀ w ∈ lw_tbl, w.before A s0 = true) (hs : ∀ c ∈ xFL, c.before A s0 = true) : xokT s0 xM (xM.1 96).cls 96 15 5 := by
  obtain ⟨sb, hsb⟩ := ts_use ts_0 hts hs
  obtain ⟨g1, g2⟩ := tw_use tw_0 hts
  exact ⟨132, 134, 136, sb, _, ["java/lang/RuntimeException", "java/lang/Exception"], rfl, (by decide +kernel : decode cX11_questionAt 15 = .ok (.new 132, 3)), (by decide +kernel : decode cX11_questionAt 18 = .ok (.dup, 1)), Or.inl ⟨(by decide +kernel : decode cX11_questionAt 19 = .ok (.ldc 134, 2)), (by decide +kernel : decode cX11_questionAt 21 = .ok (.invokespecial 136, 3)), (by decide +kernel : decode cX11_questionAt 24 = .ok (.athrow, 1))⟩, by decide +kernel, by decide +kernel, by decide, hsb, g1, g2⟩
theorem tr_1 {s0 : State} {A : Array Value} (hts : ∀ w ∈ lw_tbl, w.before A s0 = true) (hs : ∀ c ∈ xFL, c.before A s0 = true) : xokT s0 xM (xM.1 97).cls 97 14 5 := by
  obtain ⟨sb, hsb⟩ := ts_use ts_1 hts hs
  obtain ⟨g1, g2⟩ := tw_use tw_0 hts
  exact ⟨132, 151, 136, sb, _, ["java/lang/RuntimeException", "java/lang/Exception"], rfl, (by decide +kernel : decode cX11_positionOf 14 = .ok (.new 132, 3)), (by decide +kernel : decode cX11_positionOf 17 = .ok (.dup, 1)), Or.inl ⟨(by decide +kernel : decode cX11_positionOf 18 = .ok (.ldc 151, 2)), (by decide +kernel : decode cX11_positionOf 20 = .ok (.invokespecial 136, 3)), (by decide +kernel : decode cX11_positionOf 23 = .ok (.athrow, 1))⟩, by decide +kernel, by decide +kernel, by decide, hsb, g1, g2⟩
theorem tr_2 {s0 : State} {A : Array Value} (hts : ∀ w ∈ lw_tbl, w.before A s0 = true) (hs : ∀ c ∈ xFL, c.before A s0 = true) : xokT s0 xM (xM.1 100).cls 100 18 2 := by
  obtain ⟨sb, hsb⟩ := ts_use ts_2 hts hs
  obtain ⟨g1, g2⟩ := tw_use tw_1 hts
  exact ⟨163, 165, 167, sb, _, ["java/lang/RuntimeException", "java/lang/Exception"], rfl, (by decide +kernel : decode cX11_estimator 18 = .ok (.new 163, 3)), (by decide +kernel : decode cX11_estimator 21 = .ok (.dup, 1)), Or.inl ⟨(by decide +kernel : decode cX11_estimator 22 = .ok (.ldc 165, 2)), (by decide +kernel : decode cX11_estimator 24 = .ok (.invokespecial 167, 3)), (by decide +kernel : decode cX11_estimator 27 = .ok (.athrow, 1))⟩, by decide +kernel, by decide +kernel, by decide, hsb, g1, g2⟩
theorem tr_3 {s0 : State} {A : Array Value} (hts : ∀ w ∈ lw_tbl, w.before A s0 = true) (hs : ∀ c ∈ xFL, c.before A s0 = true) : xokT s0 xM (xM.1 107).cls 107 13 1 := by
  obtain ⟨sb, hsb⟩ := ts_use ts_3 hts hs
  obtain ⟨g1, g2⟩ := tw_use tw_2 hts
  exact ⟨203, 205, 207, sb, _, ["java/lang/RuntimeException", "java/lang/Exception"], rfl, (by decide +kernel : decode cX11_coverage 13 = .ok (.new 203, 3)), (by decide +kernel : decode cX11_coverage 16 = .ok (.dup, 1)), Or.inl ⟨(by decide +kernel : decode cX11_coverage 17 = .ok (.ldc 205, 2)), (by decide +kernel : decode cX11_coverage 19 = .ok (.invokespecial 207, 3)), (by decide +kernel : decode cX11_coverage 22 = .ok (.athrow, 1))⟩, by decide +kernel, by decide +kernel, by decide, hsb, g1, g2⟩
theorem tr_4 {s0 : State} {A : Array Value} (hts : ∀ w ∈ lw_tbl, w.before A s0 = true) (hs : ∀ c ∈ xFL, c.before A s0 = true) : xokT s0 xM (xM.1 112).cls 112 19 5 := by
  obtain ⟨sb, hsb⟩ := ts_use ts_4 hts hs
  obtain ⟨g1, g2⟩ := tw_use tw_0 hts
  exact ⟨132, 233, 136, sb, _, ["java/lang/RuntimeException", "java/lang/Exception"], rfl, (by decide +kernel : decode cX11_recentTruth 19 = .ok (.new 132, 3)), (by decide +kernel : decode cX11_recentTruth 22 = .ok (.dup, 1)), Or.inl ⟨(by decide +kernel : decode cX11_recentTruth 23 = .ok (.ldc 233, 2)), (by decide +kernel : decode cX11_recentTruth 25 = .ok (.invokespecial 136, 3)), (by decide +kernel : decode cX11_recentTruth 28 = .ok (.athrow, 1))⟩, by decide +kernel, by decide +kernel, by decide, hsb, g1, g2⟩
theorem tr_5 {s0 : State} {A : Array Value} (hts : ∀ w ∈ lw_tbl, w.before A s0 = true) (hs : ∀ c ∈ xFL, c.before A s0 = true) : xokT s0 xM (xM.1 116).cls 116 18 3 := by
  obtain ⟨sb, hsb⟩ := ts_use ts_5 hts hs
  obtain ⟨g1, g2⟩ := tw_use tw_3 hts
  exact ⟨254, 256, 258, sb, _, ["java/lang/RuntimeException", "java/lang/Exception"], rfl, (by decide +kernel : decode cX11_meanScore 18 = .ok (.new 254, 3)), (by decide +kernel : decode cX11_meanScore 21 = .ok (.dup, 1)), Or.inr ⟨(by decide +kernel : decode cX11_meanScore 22 = .ok (.ldc_w 256, 3)), (by decide +kernel : decode cX11_meanScore 25 = .ok (.invokespecial 258, 3)), (by decide +kernel : decode cX11_meanScore 28 = .ok (.athrow, 1))⟩, by decide +kernel, by decide +kernel, by decide, hsb, g1, g2⟩
theorem tr_6 {s0 : State} {A : Array Value} (hts : ∀ w ∈ lw_tbl, w.before A s0 = true) (hs : ∀ c ∈ xFL, c.before A s0 = true) : xokT s0 xM (xM.1 118).cls 118 13 5 := by
  obtain ⟨sb, hsb⟩ := ts_use ts_6 hts hs
  obtain ⟨g1, g2⟩ := tw_use tw_0 hts
  exact ⟨132, 265, 136, sb, _, ["java/lang/RuntimeException", "java/lang/Exception"], rfl, (by decide +kernel : decode cX11_bestCalibrated 13 = .ok (.new 132, 3)), (by decide +kernel : decode cX11_bestCalibrated 16 = .ok (.dup, 1)), Or.inr ⟨(by decide +kernel : decode cX11_bestCalibrated 17 = .ok (.ldc_w 265, 3)), (by decide +kernel : decode cX11_bestCalibrated 20 = .ok (.invokespecial 136, 3)), (by decide +kernel : decode cX11_bestCalibrated 23 = .ok (.athrow, 1))⟩, by decide +kernel, by decide +kernel, by decide, hsb, g1, g2⟩
theorem tr_7 {s0 : State} {A : Array Value} (hts : ∀ w ∈ lw_tbl, w.before A s0 = true) (hs : ∀ c ∈ xFL, c.before A s0 = true) : xokT s0 xM (xM.1 119).cls 119 33 5 := by
  obtain ⟨sb, hsb⟩ := ts_use ts_2 hts hs
  obtain ⟨g1, g2⟩ := tw_use tw_0 hts
  exact ⟨132, 165, 136, sb, _, ["java/lang/RuntimeException", "java/lang/Exception"], rfl, (by decide +kernel : decode cX11_playerByScore 33 = .ok (.new 132, 3)), (by decide +kernel : decode cX11_playerByScore 36 = .ok (.dup, 1)), Or.inl ⟨(by decide +kernel : decode cX11_playerByScore 37 = .ok (.ldc 165, 2)), (by decide +kernel : decode cX11_playerByScore 39 = .ok (.invokespecial 136, 3)), (by decide +kernel : decode cX11_playerByScore 42 = .ok (.athrow, 1))⟩, by decide +kernel, by decide +kernel, by decide, hsb, g1, g2⟩
theorem tr_8 {s0 : State} {A : Array Value} (hts : ∀ w ∈ lw_tbl, w.before A s0 = true) (hs : ∀ c ∈ xFL, c.before A s0 = true) : xokT s0 xM (xM.1 123).cls 123 20 3 := by
  obtain ⟨sb, hsb⟩ := ts_use ts_7 hts hs
  obtain ⟨g1, g2⟩ := tw_use tw_3 hts
  exact ⟨254, 284, 258, sb, _, ["java/lang/RuntimeException", "java/lang/Exception"], rfl, (by decide +kernel : decode cX11_binShare 20 = .ok (.new 254, 3)), (by decide +kernel : decode cX11_binShare 23 = .ok (.dup, 1)), Or.inr ⟨(by decide +kernel : decode cX11_binShare 24 = .ok (.ldc_w 284, 3)), (by decide +kernel : decode cX11_binShare 27 = .ok (.invokespecial 258, 3)), (by decide +kernel : decode cX11_binShare 30 = .ok (.athrow, 1))⟩, by decide +kernel, by decide +kernel, by decide, hsb, g1, g2⟩
theorem tr_9 {s0 : State} {A : Array Value} (hts : ∀ w ∈ lw_tbl, w.before A s0 = true) (hs : ∀ c ∈ xFL, c.before A s0 = true) : xokT s0 xM (xM.1 125).cls 125 10 0 := by
  obtain ⟨sb, hsb⟩ := ts_use ts_8 hts hs
  obtain ⟨g1, g2⟩ := tw_use tw_4 hts
  exact ⟨299, 301, 303, sb, _, ["java/lang/RuntimeException", "java/lang/Exception"], rfl, (by decide +kernel : decode cX11_feed 10 = .ok (.new 299, 3)), (by decide +kernel : decode cX11_feed 13 = .ok (.dup, 1)), Or.inr ⟨(by decide +kernel : decode cX11_feed 14 = .ok (.ldc_w 301, 3)), (by decide +kernel : decode cX11_feed 17 = .ok (.invokespecial 303, 3)), (by decide +kernel : decode cX11_feed 20 = .ok (.athrow, 1))⟩, by decide +kernel, by decide +kernel, by decide, hsb, g1, g2⟩
theorem tr_10 {s0 : State} {A : Array Value} (hts : ∀ w ∈ lw_tbl, w.before A s0 = true) (hs : ∀ c ∈ xFL, c.before A s0 = true) : xokT s0 xM (xM.1 126).cls 126 31 1 := by
  obtain ⟨sb, hsb⟩ := ts_use ts_9 hts hs
  obtain ⟨g1, g2⟩ := tw_use tw_2 hts
  exact ⟨203, 317, 207, sb, _, ["java/lang/RuntimeException", "java/lang/Exception"], rfl, (by decide +kernel : decode cX11_runCommands 31 = .ok (.new 203, 3)), (by decide +kernel : decode cX11_runCommands 34 = .ok (.dup, 1)), Or.inr ⟨(by decide +kernel : decode cX11_runCommands 35 = .ok (.ldc_w 317, 3)), (by decide +kernel : decode cX11_runCommands 38 = .ok (.invokespecial 207, 3)), (by decide +kernel : decode cX11_runCommands 41 = .ok (.athrow, 1))⟩, by decide +kernel, by decide +kernel, by decide, hsb, g1, g2⟩
theorem tr_11 {s0 : State} {A : Array Value} (hts : ∀ w ∈ lw_tbl, w.before A s0 = true) (hs : ∀ c ∈ xFL, c.before A s0 = true) : xokT s0 xM (xM.1 126).cls 126 87 4 := by
  obtain ⟨sb, hsb⟩ := ts_use ts_10 hts hs
  obtain ⟨g1, g2⟩ := tw_use tw_5 hts
  exact ⟨328, 330, 332, sb, _, ["java/lang/RuntimeException", "java/lang/Exception"], rfl, (by decide +kernel : decode cX11_runCommands 87 = .ok (.new 328, 3)), (by decide +kernel : decode cX11_runCommands 90 = .ok (.dup, 1)), Or.inr ⟨(by decide +kernel : decode cX11_runCommands 91 = .ok (.ldc_w 330, 3)), (by decide +kernel : decode cX11_runCommands 94 = .ok (.invokespecial 332, 3)), (by decide +kernel : decode cX11_runCommands 97 = .ok (.athrow, 1))⟩, by decide +kernel, by decide +kernel, by decide, hsb, g1, g2⟩
theorem tr_12 {s0 : State} {A : Array Value} (hts : ∀ w ∈ lw_tbl, w.before A s0 = true) (hs : ∀ c ∈ xFL, c.before A s0 = true) : xokT s0 xM (xM.1 127).cls 127 8 5 := by
  obtain ⟨sb, hsb⟩ := ts_use ts_11 hts hs
  obtain ⟨g1, g2⟩ := tw_use tw_0 hts
  exact ⟨132, 336, 136, sb, _, ["java/lang/RuntimeException", "java/lang/Exception"], rfl, (by decide +kernel : decode cX11_errorPosition 8 = .ok (.new 132, 3)), (by decide +kernel : decode cX11_errorPosition 11 = .ok (.dup, 1)), Or.inr ⟨(by decide +kernel : decode cX11_errorPosition 12 = .ok (.ldc_w 336, 3)), (by decide +kernel : decode cX11_errorPosition 15 = .ok (.invokespecial 136, 3)), (by decide +kernel : decode cX11_errorPosition 18 = .ok (.athrow, 1))⟩, by decide +kernel, by decide +kernel, by decide, hsb, g1, g2⟩
theorem tr_13 {s0 : State} {A : Array Value} (hts : ∀ w ∈ lw_tbl, w.before A s0 = true) (hs : ∀ c ∈ xFL, c.before A s0 = true) : xokT s0 xM (xM.1 128).cls 128 8 5 := by
  obtain ⟨sb, hsb⟩ := ts_use ts_12 hts hs
  obtain ⟨g1, g2⟩ := tw_use tw_0 hts
  exact ⟨132, 338, 136, sb, _, ["java/lang/RuntimeException", "java/lang/Exception"], rfl, (by decide +kernel : decode cX11_failedCommand 8 = .ok (.new 132, 3)), (by decide +kernel : decode cX11_failedCommand 11 = .ok (.dup, 1)), Or.inr ⟨(by decide +kernel : decode cX11_failedCommand 12 = .ok (.ldc_w 338, 3)), (by decide +kernel : decode cX11_failedCommand 15 = .ok (.invokespecial 136, 3)), (by decide +kernel : decode cX11_failedCommand 18 = .ok (.athrow, 1))⟩, by decide +kernel, by decide +kernel, by decide, hsb, g1, g2⟩
theorem tr_14 {s0 : State} {A : Array Value} (hts : ∀ w ∈ lw_tbl, w.before A s0 = true) (hs : ∀ c ∈ xFL, c.before A s0 = true) : xokT s0 xM (xM.1 130).cls 130 15 2 := by
  obtain ⟨sb, hsb⟩ := ts_use ts_13 hts hs
  obtain ⟨g1, g2⟩ := tw_use tw_1 hts
  exact ⟨163, 356, 167, sb, _, ["java/lang/RuntimeException", "java/lang/Exception"], rfl, (by decide +kernel : decode cX11_outputChar 15 = .ok (.new 163, 3)), (by decide +kernel : decode cX11_outputChar 18 = .ok (.dup, 1)), Or.inr ⟨(by decide +kernel : decode cX11_outputChar 19 = .ok (.ldc_w 356, 3)), (by decide +kernel : decode cX11_outputChar 22 = .ok (.invokespecial 167, 3)), (by decide +kernel : decode cX11_outputChar 25 = .ok (.athrow, 1))⟩, by decide +kernel, by decide +kernel, by decide, hsb, g1, g2⟩
theorem tr_15 {s0 : State} {A : Array Value} (hts : ∀ w ∈ lw_tbl, w.before A s0 = true) (hs : ∀ c ∈ xFL, c.before A s0 = true) : xokT s0 xM (xM.1 132).cls 132 10 0 := by
  obtain ⟨sb, hsb⟩ := ts_use ts_14 hts hs
  obtain ⟨g1, g2⟩ := tw_use tw_4 hts
  exact ⟨299, 363, 303, sb, _, ["java/lang/RuntimeException", "java/lang/Exception"], rfl, (by decide +kernel : decode cX11_undo 10 = .ok (.new 299, 3)), (by decide +kernel : decode cX11_undo 13 = .ok (.dup, 1)), Or.inr ⟨(by decide +kernel : decode cX11_undo 14 = .ok (.ldc_w 363, 3)), (by decide +kernel : decode cX11_undo 17 = .ok (.invokespecial 303, 3)), (by decide +kernel : decode cX11_undo 20 = .ok (.athrow, 1))⟩, by decide +kernel, by decide +kernel, by decide, hsb, g1, g2⟩
theorem tr_16 {s0 : State} {A : Array Value} (hts : ∀ w ∈ lw_tbl, w.before A s0 = true) (hs : ∀ c ∈ xFL, c.before A s0 = true) : xokT s0 xM (xM.1 134).cls 134 7 0 := by
  obtain ⟨sb, hsb⟩ := ts_use ts_15 hts hs
  obtain ⟨g1, g2⟩ := tw_use tw_4 hts
  exact ⟨299, 371, 303, sb, _, ["java/lang/RuntimeException", "java/lang/Exception"], rfl, (by decide +kernel : decode cX11_restore 7 = .ok (.new 299, 3)), (by decide +kernel : decode cX11_restore 10 = .ok (.dup, 1)), Or.inr ⟨(by decide +kernel : decode cX11_restore 11 = .ok (.ldc_w 371, 3)), (by decide +kernel : decode cX11_restore 14 = .ok (.invokespecial 303, 3)), (by decide +kernel : decode cX11_restore 17 = .ok (.athrow, 1))⟩, by decide +kernel, by decide +kernel, by decide, hsb, g1, g2⟩
theorem tr_17 {s0 : State} {A : Array Value} (hts : ∀ w ∈ lw_tbl, w.before A s0 = true) (hs : ∀ c ∈ xFL, c.before A s0 = true) : xokT s0 xM (xM.1 135).cls 135 44 2 := by
  obtain ⟨sb, hsb⟩ := ts_use ts_16 hts hs
  obtain ⟨g1, g2⟩ := tw_use tw_1 hts
  exact ⟨163, 384, 167, sb, _, ["java/lang/RuntimeException", "java/lang/Exception"], rfl, (by decide +kernel : decode cX11_refuseOn 44 = .ok (.new 163, 3)), (by decide +kernel : decode cX11_refuseOn 47 = .ok (.dup, 1)), Or.inr ⟨(by decide +kernel : decode cX11_refuseOn 48 = .ok (.ldc_w 384, 3)), (by decide +kernel : decode cX11_refuseOn 51 = .ok (.invokespecial 167, 3)), (by decide +kernel : decode cX11_refuseOn 54 = .ok (.athrow, 1))⟩, by decide +kernel, by decide +kernel, by decide, hsb, g1, g2⟩
theorem tr_18 {s0 : State} {A : Array Value} (hts : ∀ w ∈ lw_tbl, w.before A s0 = true) (hs : ∀ c ∈ xFL, c.before A s0 = true) : xokT s0 xM (xM.1 135).cls 135 55 5 := by
  obtain ⟨sb, hsb⟩ := ts_use ts_1 hts hs
  obtain ⟨g1, g2⟩ := tw_use tw_0 hts
  exact ⟨132, 151, 136, sb, _, ["java/lang/RuntimeException", "java/lang/Exception"], rfl, (by decide +kernel : decode cX11_refuseOn 55 = .ok (.new 132, 3)), (by decide +kernel : decode cX11_refuseOn 58 = .ok (.dup, 1)), Or.inl ⟨(by decide +kernel : decode cX11_refuseOn 59 = .ok (.ldc 151, 2)), (by decide +kernel : decode cX11_refuseOn 61 = .ok (.invokespecial 136, 3)), (by decide +kernel : decode cX11_refuseOn 64 = .ok (.athrow, 1))⟩, by decide +kernel, by decide +kernel, by decide, hsb, g1, g2⟩
theorem tr_19 {s0 : State} {A : Array Value} (hts : ∀ w ∈ lw_tbl, w.before A s0 = true) (hs : ∀ c ∈ xFL, c.before A s0 = true) : xokT s0 xM (xM.1 135).cls 135 65 1 := by
  obtain ⟨sb, hsb⟩ := ts_use ts_17 hts hs
  obtain ⟨g1, g2⟩ := tw_use tw_2 hts
  exact ⟨203, 386, 207, sb, _, ["java/lang/RuntimeException", "java/lang/Exception"], rfl, (by decide +kernel : decode cX11_refuseOn 65 = .ok (.new 203, 3)), (by decide +kernel : decode cX11_refuseOn 68 = .ok (.dup, 1)), Or.inr ⟨(by decide +kernel : decode cX11_refuseOn 69 = .ok (.ldc_w 386, 3)), (by decide +kernel : decode cX11_refuseOn 72 = .ok (.invokespecial 207, 3)), (by decide +kernel : decode cX11_refuseOn 75 = .ok (.athrow, 1))⟩, by decide +kernel, by decide +kernel, by decide, hsb, g1, g2⟩
theorem tr_20 {s0 : State} {A : Array Value} (hts : ∀ w ∈ lw_tbl, w.before A s0 = true) (hs : ∀ c ∈ xFL, c.before A s0 = true) : xokT s0 xM (xM.1 135).cls 135 76 4 := by
  obtain ⟨sb, hsb⟩ := ts_use ts_18 hts hs
  obtain ⟨g1, g2⟩ := tw_use tw_5 hts
  exact ⟨328, 388, 332, sb, _, ["java/lang/RuntimeException", "java/lang/Exception"], rfl, (by decide +kernel : decode cX11_refuseOn 76 = .ok (.new 328, 3)), (by decide +kernel : decode cX11_refuseOn 79 = .ok (.dup, 1)), Or.inr ⟨(by decide +kernel : decode cX11_refuseOn 80 = .ok (.ldc_w 388, 3)), (by decide +kernel : decode cX11_refuseOn 83 = .ok (.invokespecial 332, 3)), (by decide +kernel : decode cX11_refuseOn 86 = .ok (.athrow, 1))⟩, by decide +kernel, by decide +kernel, by decide, hsb, g1, g2⟩
theorem tr_21 {s0 : State} {A : Array Value} (hts : ∀ w ∈ lw_tbl, w.before A s0 = true) (hs : ∀ c ∈ xFL, c.before A s0 = true) : xokT s0 xM (xM.1 135).cls 135 87 0 := by
  obtain ⟨sb, hsb⟩ := ts_use ts_19 hts hs
  obtain ⟨g1, g2⟩ := tw_use tw_4 hts
  exact ⟨299, 390, 303, sb, _, ["java/lang/RuntimeException", "java/lang/Exception"], rfl, (by decide +kernel : decode cX11_refuseOn 87 = .ok (.new 299, 3)), (by decide +kernel : decode cX11_refuseOn 90 = .ok (.dup, 1)), Or.inr ⟨(by decide +kernel : decode cX11_refuseOn 91 = .ok (.ldc_w 390, 3)), (by decide +kernel : decode cX11_refuseOn 94 = .ok (.invokespecial 303, 3)), (by decide +kernel : decode cX11_refuseOn 97 = .ok (.athrow, 1))⟩, by decide +kernel, by decide +kernel, by decide, hsb, g1, g2⟩
theorem tr_22 {s0 : State} {A : Array Value} (hts : ∀ w ∈ lw_tbl, w.before A s0 = true) (hs : ∀ c ∈ xFL, c.before A s0 = true) : xokT s0 xM (xM.1 138).cls 138 7 1 := by
  obtain ⟨sb, hsb⟩ := ts_use ts_20 hts hs
  obtain ⟨g1, g2⟩ := tw_use tw_2 hts
  exact ⟨203, 395, 207, sb, _, ["java/lang/RuntimeException", "java/lang/Exception"], rfl, (by decide +kernel : decode cX11_requireConfidence 7 = .ok (.new 203, 3)), (by decide +kernel : decode cX11_requireConfidence 10 = .ok (.dup, 1)), Or.inr ⟨(by decide +kernel : decode cX11_requireConfidence 11 = .ok (.ldc_w 395, 3)), (by decide +kernel : decode cX11_requireConfidence 14 = .ok (.invokespecial 207, 3)), (by decide +kernel : decode cX11_requireConfidence 17 = .ok (.athrow, 1))⟩, by decide +kernel, by decide +kernel, by decide, hsb, g1, g2⟩
theorem tr_23 {s0 : State} {A : Array Value} (hts : ∀ w ∈ lw_tbl, w.before A s0 = true) (hs : ∀ c ∈ xFL, c.before A s0 = true) : xokT s0 xM (xM.1 139).cls 139 11 2 := by
  obtain ⟨sb, hsb⟩ := ts_use ts_16 hts hs
  obtain ⟨g1, g2⟩ := tw_use tw_1 hts
  exact ⟨163, 384, 167, sb, _, ["java/lang/RuntimeException", "java/lang/Exception"], rfl, (by decide +kernel : decode cX11_requirePlayer 11 = .ok (.new 163, 3)), (by decide +kernel : decode cX11_requirePlayer 14 = .ok (.dup, 1)), Or.inr ⟨(by decide +kernel : decode cX11_requirePlayer 15 = .ok (.ldc_w 384, 3)), (by decide +kernel : decode cX11_requirePlayer 18 = .ok (.invokespecial 167, 3)), (by decide +kernel : decode cX11_requirePlayer 21 = .ok (.athrow, 1))⟩, by decide +kernel, by decide +kernel, by decide, hsb, g1, g2⟩
theorem tr_24 {s0 : State} {A : Array Value} (hts : ∀ w ∈ lw_tbl, w.before A s0 = true) (hs : ∀ c ∈ xFL, c.before A s0 = true) : xokT s0 xM (xM.1 140).cls 140 14 5 := by
  obtain ⟨sb, hsb⟩ := ts_use ts_1 hts hs
  obtain ⟨g1, g2⟩ := tw_use tw_0 hts
  exact ⟨132, 151, 136, sb, _, ["java/lang/RuntimeException", "java/lang/Exception"], rfl, (by decide +kernel : decode cX11_requireQuestion 14 = .ok (.new 132, 3)), (by decide +kernel : decode cX11_requireQuestion 17 = .ok (.dup, 1)), Or.inl ⟨(by decide +kernel : decode cX11_requireQuestion 18 = .ok (.ldc 151, 2)), (by decide +kernel : decode cX11_requireQuestion 20 = .ok (.invokespecial 136, 3)), (by decide +kernel : decode cX11_requireQuestion 23 = .ok (.athrow, 1))⟩, by decide +kernel, by decide +kernel, by decide, hsb, g1, g2⟩
theorem tr_25 {s0 : State} {A : Array Value} (hts : ∀ w ∈ lw_tbl, w.before A s0 = true) (hs : ∀ c ∈ xFL, c.before A s0 = true) : xokT s0 xM (xM.1 141).cls 141 13 5 := by
  obtain ⟨sb, hsb⟩ := ts_use ts_21 hts hs
  obtain ⟨g1, g2⟩ := tw_use tw_0 hts
  exact ⟨132, 404, 136, sb, _, ["java/lang/RuntimeException", "java/lang/Exception"], rfl, (by decide +kernel : decode cX11_requireEstimatedQuestion 13 = .ok (.new 132, 3)), (by decide +kernel : decode cX11_requireEstimatedQuestion 16 = .ok (.dup, 1)), Or.inr ⟨(by decide +kernel : decode cX11_requireEstimatedQuestion 17 = .ok (.ldc_w 404, 3)), (by decide +kernel : decode cX11_requireEstimatedQuestion 20 = .ok (.invokespecial 136, 3)), (by decide +kernel : decode cX11_requireEstimatedQuestion 23 = .ok (.athrow, 1))⟩, by decide +kernel, by decide +kernel, by decide, hsb, g1, g2⟩
theorem tr_26 {s0 : State} {A : Array Value} (hts : ∀ w ∈ lw_tbl, w.before A s0 = true) (hs : ∀ c ∈ xFL, c.before A s0 = true) : xokT s0 xM (xM.1 142).cls 142 25 5 := by
  obtain ⟨sb, hsb⟩ := ts_use ts_22 hts hs
  obtain ⟨g1, g2⟩ := tw_use tw_0 hts
  exact ⟨132, 406, 136, sb, _, ["java/lang/RuntimeException", "java/lang/Exception"], rfl, (by decide +kernel : decode cX11_requireEstimate 25 = .ok (.new 132, 3)), (by decide +kernel : decode cX11_requireEstimate 28 = .ok (.dup, 1)), Or.inr ⟨(by decide +kernel : decode cX11_requireEstimate 29 = .ok (.ldc_w 406, 3)), (by decide +kernel : decode cX11_requireEstimate 32 = .ok (.invokespecial 136, 3)), (by decide +kernel : decode cX11_requireEstimate 35 = .ok (.athrow, 1))⟩, by decide +kernel, by decide +kernel, by decide, hsb, g1, g2⟩
theorem trs {s0 : State} {A : Array Value} (hts : ∀ w ∈ lw_tbl, w.before A s0 = true) (hs : ∀ c ∈ xFL, c.before A s0 = true) : ∀ q ∈ LTl, xokT s0 xM (xM.1 q.1).cls q.1 q.2.1 q.2.2 := List.forall_mem_cons.mpr ⟨tr_0 hts hs, List.forall_mem_cons.mpr ⟨tr_1 hts hs, List.forall_mem_cons.mpr ⟨tr_2 hts hs, List.forall_mem_cons.mpr ⟨tr_3 hts hs, List.forall_mem_cons.mpr ⟨tr_4 hts hs, List.forall_mem_cons.mpr ⟨tr_5 hts hs, List.forall_mem_cons.mpr ⟨tr_6 hts hs, List.forall_mem_cons.mpr ⟨tr_7 hts hs, List.forall_mem_cons.mpr ⟨tr_8 hts hs, List.forall_mem_cons.mpr ⟨tr_9 hts hs, List.forall_mem_cons.mpr ⟨tr_10 hts hs, List.forall_mem_cons.mpr ⟨tr_11 hts hs, List.forall_mem_cons.mpr ⟨tr_12 hts hs, List.forall_mem_cons.mpr ⟨tr_13 hts hs, List.forall_mem_cons.mpr ⟨tr_14 hts hs, List.forall_mem_cons.mpr ⟨tr_15 hts hs, List.forall_mem_cons.mpr ⟨tr_16 hts hs, List.forall_mem_cons.mpr ⟨tr_17 hts hs, List.forall_mem_cons.mpr ⟨tr_18 hts hs, List.forall_mem_cons.mpr ⟨tr_19 hts hs, List.forall_mem_cons.mpr ⟨tr_20 hts hs, List.forall_mem_cons.mpr ⟨tr_21 hts hs, List.forall_mem_cons.mpr ⟨tr_22 hts hs, List.forall_mem_cons.mpr ⟨tr_23 hts hs, List.forall_mem_cons.mpr ⟨tr_24 hts hs, List.forall_mem_cons.mpr ⟨tr_25 hts hs, List.forall_mem_cons.mpr ⟨tr_26 hts hs, fun _ h => nomatch h⟩⟩⟩⟩⟩⟩⟩⟩⟩⟩⟩⟩⟩⟩⟩⟩⟩⟩⟩⟩⟩⟩⟩⟩⟩⟩⟩
theorem gs_0 : Cond.laysStatic "EstimateContest$Fault" "NONE" "LEstimateContest$Fault;" ∈ lw_tbl ∧ Cond.initialized "EstimateContest$Fault" ∈ lw_tbl ∧ (Cond.fieldLink (xown 1) 71 "EstimateContest$Fault" "NONE" "LEstimateContest$Fault;" ∈ Gw) := ⟨by decide +kernel, by decide +kernel, xg (by decide +kernel) rfl⟩
theorem gs_1 : Cond.laysStatic "EstimateContest$Fault" "NOT_NOW" "LEstimateContest$Fault;" ∈ lw_tbl ∧ Cond.initialized "EstimateContest$Fault" ∈ lw_tbl ∧ (Cond.fieldLink (xown 1) 77 "EstimateContest$Fault" "NOT_NOW" "LEstimateContest$Fault;" ∈ Gw) := ⟨by decide +kernel, by decide +kernel, xg (by decide +kernel) rfl⟩
theorem gs_2 : Cond.laysStatic "EstimateContest$Fault" "OUT_OF_RANGE" "LEstimateContest$Fault;" ∈ lw_tbl ∧ Cond.initialized "EstimateContest$Fault" ∈ lw_tbl ∧ (Cond.fieldLink (xown 1) 83 "EstimateContest$Fault" "OUT_OF_RANGE" "LEstimateContest$Fault;" ∈ Gw) := ⟨by decide +kernel, by decide +kernel, xg (by decide +kernel) rfl⟩
theorem gs_3 : Cond.laysStatic "EstimateContest$Fault" "NO_PLAYER" "LEstimateContest$Fault;" ∈ lw_tbl ∧ Cond.initialized "EstimateContest$Fault" ∈ lw_tbl ∧ (Cond.fieldLink (xown 1) 93 "EstimateContest$Fault" "NO_PLAYER" "LEstimateContest$Fault;" ∈ Gw) := ⟨by decide +kernel, by decide +kernel, xg (by decide +kernel) rfl⟩
theorem gs_4 : Cond.laysStatic "EstimateContest$Fault" "NO_QUESTION" "LEstimateContest$Fault;" ∈ lw_tbl ∧ Cond.initialized "EstimateContest$Fault" ∈ lw_tbl ∧ (Cond.fieldLink (xown 1) 100 "EstimateContest$Fault" "NO_QUESTION" "LEstimateContest$Fault;" ∈ Gw) := ⟨by decide +kernel, by decide +kernel, xg (by decide +kernel) rfl⟩
theorem gs_5 : Cond.laysStatic "EstimateContest$Fault" "IS_OUT" "LEstimateContest$Fault;" ∈ lw_tbl ∧ Cond.initialized "EstimateContest$Fault" ∈ lw_tbl ∧ (Cond.fieldLink (xown 1) 113 "EstimateContest$Fault" "IS_OUT" "LEstimateContest$Fault;" ∈ Gw) := ⟨by decide +kernel, by decide +kernel, xg (by decide +kernel) rfl⟩
theorem gs_6 : Cond.laysStatic "EstimateContest$CommandText" "COMMANDS" "[LEstimateContest$Command;" ∈ lw_tbl ∧ Cond.initialized "EstimateContest$CommandText" ∈ lw_tbl ∧ (Cond.fieldLink (xown 2) 40 "EstimateContest$CommandText" "COMMANDS" "[LEstimateContest$Command;" ∈ Gw) := ⟨by decide +kernel, by decide +kernel, xg (by decide +kernel) rfl⟩
theorem gs_7 : Cond.laysStatic "EstimateContest$1" "$SwitchMap$EstimateContest$Fault" "[I" ∈ lw_tbl ∧ Cond.initialized "EstimateContest$1" ∈ lw_tbl ∧ (Cond.fieldLink (xown 8) 374 "EstimateContest$1" "$SwitchMap$EstimateContest$Fault" "[I" ∈ Gw) := ⟨by decide +kernel, by decide +kernel, xg (by decide +kernel) rfl⟩
theorem gs_8 : Cond.laysStatic "EstimateContest$Fault" "NONE" "LEstimateContest$Fault;" ∈ lw_tbl ∧ Cond.initialized "EstimateContest$Fault" ∈ lw_tbl ∧ (Cond.fieldLink (xown 8) 419 "EstimateContest$Fault" "NONE" "LEstimateContest$Fault;" ∈ Gw) := ⟨by decide +kernel, by decide +kernel, xg (by decide +kernel) rfl⟩
theorem gs_9 : Cond.laysStatic "EstimateContest$1" "$SwitchMap$EstimateContest$Command" "[I" ∈ lw_tbl ∧ Cond.initialized "EstimateContest$1" ∈ lw_tbl ∧ (Cond.fieldLink (xown 8) 431 "EstimateContest$1" "$SwitchMap$EstimateContest$Command" "[I" ∈ Gw) := ⟨by decide +kernel, by decide +kernel, xg (by decide +kernel) rfl⟩
theorem gs_10 : Cond.laysStatic "java/lang/String" "COMPACT_STRINGS" "Z" ∈ lw_tbl ∧ Cond.initialized "java/lang/String" ∈ lw_tbl ∧ (Cond.fieldLink (xown 15) 18 "java/lang/String" "COMPACT_STRINGS" "Z" ∈ Gw) := ⟨by decide +kernel, by decide +kernel, xg (by decide +kernel) rfl⟩
theorem gs_11 : Cond.laysStatic "java/lang/Integer" "DigitOnes" "[B" ∈ lw_tbl ∧ Cond.initialized "java/lang/Integer" ∈ lw_tbl ∧ (Cond.fieldLink (xown 12) 83 "java/lang/Integer" "DigitOnes" "[B" ∈ Gw) := ⟨by decide +kernel, by decide +kernel, xg (by decide +kernel) rfl⟩
theorem gs_12 : Cond.laysStatic "java/lang/Integer" "DigitTens" "[B" ∈ lw_tbl ∧ Cond.initialized "java/lang/Integer" ∈ lw_tbl ∧ (Cond.fieldLink (xown 12) 87 "java/lang/Integer" "DigitTens" "[B" ∈ Gw) := ⟨by decide +kernel, by decide +kernel, xg (by decide +kernel) rfl⟩
theorem gs_13 : Cond.laysStatic "java/lang/String" "COMPACT_STRINGS" "Z" ∈ lw_tbl ∧ Cond.initialized "java/lang/String" ∈ lw_tbl ∧ (Cond.fieldLink (xown 18) 38 "java/lang/String" "COMPACT_STRINGS" "Z" ∈ Gw) := ⟨by decide +kernel, by decide +kernel, xg (by decide +kernel) rfl⟩
theorem gss {s0 : State} {A : Array Value} {sa : Nat → Nat} {L : Nat} {xs : Nat → Int32} (hts : ∀ w ∈ lw_tbl, w.before A s0 = true) (hw : xWd s0 A sa L xs) : ∀ q ∈ LSl, xokS s0 Gw Gn sa (xown q.1) q.2.1 q.2.2 := by
  have hA : ∀ q : Nat, q < s0.heap.size → ¬ s0.heap.size ≤ q := fun q h z => absurd h (Nat.not_lt.mpr z)
  obtain ⟨w1, -, -, -, -, ⟨w13, -⟩, ⟨w14, -⟩, ⟨w15, -⟩, ⟨w22, -⟩, ⟨w23, -⟩, wC, -, -⟩ := hw
  exact (List.forall_mem_cons.mpr ⟨⟨"EstimateContest$Fault", "NONE", "LEstimateContest$Fault;", va_Zof (hts _ gs_0.1) (hts _ gs_0.2.1) (w1 0 (by decide)).1 hA, Or.inl gs_0.2.2⟩,
    List.forall_mem_cons.mpr ⟨⟨"EstimateContest$Fault", "NOT_NOW", "LEstimateContest$Fault;", va_Zof (hts _ gs_1.1) (hts _ gs_1.2.1) (w1 5 (by decide)).1 hA, Or.inl gs_1.2.2⟩,
    List.forall_mem_cons.mpr ⟨⟨"EstimateContest$Fault", "OUT_OF_RANGE", "LEstimateContest$Fault;", va_Zof (hts _ gs_2.1) (hts _ gs_2.2.1) (w1 3 (by decide)).1 hA, Or.inl gs_2.2.2⟩,
    List.forall_mem_cons.mpr ⟨⟨"EstimateContest$Fault", "NO_PLAYER", "LEstimateContest$Fault;", va_Zof (hts _ gs_3.1) (hts _ gs_3.2.1) (w1 1 (by decide)).1 hA, Or.inl gs_3.2.2⟩,
    List.forall_mem_cons.mpr ⟨⟨"EstimateContest$Fault", "NO_QUESTION", "LEstimateContest$Fault;", va_Zof (hts _ gs_4.1) (hts _ gs_4.2.1) (w1 2 (by decide)).1 hA, Or.inl gs_4.2.2⟩,
    List.forall_mem_cons.mpr ⟨⟨"EstimateContest$Fault", "IS_OUT", "LEstimateContest$Fault;", va_Zof (hts _ gs_5.1) (hts _ gs_5.2.1) (w1 4 (by decide)).1 hA, Or.inl gs_5.2.2⟩,
    List.forall_mem_cons.mpr ⟨⟨"EstimateContest$CommandText", "COMMANDS", "[LEstimateContest$Command;", va_Zof (hts _ gs_6.1) (hts _ gs_6.2.1) w15 hA, Or.inl gs_6.2.2⟩,
    List.forall_mem_cons.mpr ⟨⟨"EstimateContest$1", "$SwitchMap$EstimateContest$Fault", "[I", va_Zof (hts _ gs_7.1) (hts _ gs_7.2.1) w13 hA, Or.inl gs_7.2.2⟩,
    List.forall_mem_cons.mpr ⟨⟨"EstimateContest$Fault", "NONE", "LEstimateContest$Fault;", va_Zof (hts _ gs_8.1) (hts _ gs_8.2.1) (w1 0 (by decide)).1 hA, Or.inl gs_8.2.2⟩,
    List.forall_mem_cons.mpr ⟨⟨"EstimateContest$1", "$SwitchMap$EstimateContest$Command", "[I", va_Zof (hts _ gs_9.1) (hts _ gs_9.2.1) w14 hA, Or.inl gs_9.2.2⟩,
    List.forall_mem_cons.mpr ⟨⟨"java/lang/String", "COMPACT_STRINGS", "Z", va_Zof (hts _ gs_10.1) (hts _ gs_10.2.1) wC hA, Or.inl gs_10.2.2⟩,
    List.forall_mem_cons.mpr ⟨⟨"java/lang/Integer", "DigitOnes", "[B", va_Zof (hts _ gs_11.1) (hts _ gs_11.2.1) w22 hA, Or.inl gs_11.2.2⟩,
    List.forall_mem_cons.mpr ⟨⟨"java/lang/Integer", "DigitTens", "[B", va_Zof (hts _ gs_12.1) (hts _ gs_12.2.1) w23 hA, Or.inl gs_12.2.2⟩,
    List.forall_mem_cons.mpr ⟨⟨"java/lang/String", "COMPACT_STRINGS", "Z", va_Zof (hts _ gs_13.1) (hts _ gs_13.2.1) wC hA, Or.inl gs_13.2.2⟩,
    fun _ h => nomatch h⟩⟩⟩⟩⟩⟩⟩⟩⟩⟩⟩⟩⟩⟩)
