set_option maxHeartbeats 4000000 in
set_option maxRecDepth 100000 in
theorem kX8_skipMonth (l : Launch) (X : KX) (kS : Nat → Nat) (d r q : Nat → Nat) (M : Nat → Int) (C : Nat → Nat → Int) (w : Nat → Int) (i : Int) (hpc : 0 ≤ M 3 ∧ M 3 ≤ 8) (hq : ∀ j, j < 8 → q j < 8) (hWI : WI w) (hi9 : i32 i) : CE l X kS yX8_skipMonth wsX8_skipMonth ({ frames := 6, cells := 0, slots := 0, locals := 150 }) [.ref (d 0), .int (iI i)] ([oX8 (d 0) (M 0) (d 1) (d 2) (M 3) (d 3) (M 5) (d 4) (d 5) (d 6) (M 9) (d 7) (M 11) (M 12) (M 13) (M 14) (M 15) (M 16) (M 17) (M 18) (M 19) (M 20) (M 21) (M 22) (M 23) (M 24) (M 25) (M 26) (M 27) (M 28), arI X (d 1) 122 w, arA X (d 2) 8 (rq r q)] ++ ((rwW X r C))) (fun v9 w9 => ∃ N : Nat → Int, ∃ u : Nat → Int, ∃ p : Nat → Nat, ∃ K : Nat → Nat → Int, ∃ z : Int, (sameQ M N) ∧ ((N 0 = 0 ∧ ((0 ≤ i ∧ i < w 0) ∧ 0 < wOf w i 1 ∧ wOf w i 9 < 6 ∧ fW (wOf w i 1) (wOf w i 2) (wOf w i 5) ≤ 9999999) ∧ u = wDef w i ∧ z = fI (wOf w i 1) (wOf w i 2) (wOf w i 5) ∧ N 3 = min (M 3 + 1) 8 ∧ p = rmQ q (M 3) ∧ K = rmC C q (M 3) w) ∨ (N 0 = 1 ∧ (¬ (0 ≤ i ∧ i < w 0)) ∧ u = w ∧ z = 0 ∧ N 3 = M 3 ∧ p = q ∧ K = C) ∨ (N 0 = 2 ∧ ((0 ≤ i ∧ i < w 0) ∧ ¬ (0 < wOf w i 1 ∧ wOf w i 9 < 6 ∧ fW (wOf w i 1) (wOf w i 2) (wOf w i 5) ≤ 9999999)) ∧ u = w ∧ z = 0 ∧ N 3 = M 3 ∧ p = q ∧ K = C)) ∧ v9 = some (.int (iI z)) ∧ w9 = [oX8 (d 0) (N 0) (d 1) (d 2) (N 3) (d 3) (N 5) (d 4) (d 5) (d 6) (N 9) (d 7) (N 11) (N 12) (N 13) (N 14) (N 15) (N 16) (N 17) (N 18) (N 19) (N 20) (N 21) (N 22) (N 23) (N 24) (N 25) (N 26) (N 27) (N 28), arI X (d 1) 122 u, arA X (d 2) 8 (rq r p)] ++ ((rwW X r K))) 0 0 := by
  refine lo_enterE (cc := cX8_skipMonth) (maxL := 2) (ret := (some .int)) (lv := [(0, .ref (d 0)), (1, .int (iI i))]) (by decide) rfl rfl (Nat.le_of_ble_eq_true rfl) ?_
  intro p9 e9 s9 m9 bl9 me9 c9 A9 ls hAe E hRt hLk hK hl hw hV
  have Ex := E.1
  have Eb := E.2.1
  have huRX8 : ∀ w ∈ u_ws RX8 TX8 29, w ∈ wsX8_skipMonth := by decide +kernel
  have hf56 : (Cond.fieldLink RX8 56 "LoanScheduleModel" "thrown" "I").before _ s9 = true := E.2.2.2.2 _ (List.mem_of_getElem? (i := 1) rfl)
  have hf9 : (Cond.fieldLink RX8 9 "LoanScheduleModel" "w" "[I").before _ s9 = true := E.2.2.2.2 _ (List.mem_of_getElem? (i := 2) rfl)
  obtain ⟨⟨hn0, hn1⟩, ⟨hb0, hb1⟩, hL⟩ := id hWI
  refine lv_aload_n Ex Eb dX8_skipMonth_0 rfl (lv_at hl 0 rfl) ?_
  refine lv_iconst (v := iI 0) Ex Eb dX8_skipMonth_1 rfl ?_
  refine lo_put E hK hw huRX8 tyX8 tyX8_ok nmX8 0 hf56 rfl 0 rfl rfl (by decide) rfl rfl rfl rfl (Nat.le_of_ble_eq_true rfl) (ws' := [oX8 (d 0) 0 (d 1) (d 2) (M 3) (d 3) (M 5) (d 4) (d 5) (d 6) (M 9) (d 7) (M 11) (M 12) (M 13) (M 14) (M 15) (M 16) (M 17) (M 18) (M 19) (M 20) (M 21) (M 22) (M 23) (M 24) (M 25) (M 26) (M 27) (M 28), arI X (d 1) 122 w, arA X (d 2) 8 (rq r q)] ++ ((rwW X r C))) rfl dX8_skipMonth_2 (fun H locs hw => ?_)
  refine lv_aload_n Ex Eb dX8_skipMonth_5 rfl (lv_at hl 0 rfl) ?_
  refine lv_iload_n Ex Eb dX8_skipMonth_6 rfl (lv_at hl 1 rfl) ?_
  refine lo_callV (q0 := 0) (rest := []) E hK hw (kX8_noLoan l X d (uI M 0 0) w i (by omega) (by omega)) (cwV 1 E.2.2.2.2 gX8_skipMonth_X8_noLoan rfl rfl rfl (by decide +kernel) ⟨Nat.le_of_ble_eq_true rfl, Nat.le_of_ble_eq_true rfl⟩) rfl rfl [0, 1] rfl (by decide) hl.1 rfl rfl (Nat.le_of_ble_eq_true rfl) dX8_skipMonth_7 ⟨Nat.le_of_ble_eq_true rfl, Nat.le_of_ble_eq_true rfl⟩ (fun v w1 H locs hq hw => ?_)
  obtain ⟨z1, t2, q7_0, rfl, rfl⟩ := hq
  change (z1 = 0 ∧ t2 = 0 ∧ 0 ≤ i ∧ i < w 0) ∨ (z1 = 1 ∧ t2 = 1 ∧ ¬ (0 ≤ i ∧ i < w 0)) at q7_0
  have hw : lo_Wd X ([oX8 (d 0) t2 (d 1) (d 2) (M 3) (d 3) (M 5) (d 4) (d 5) (d 6) (M 9) (d 7) (M 11) (M 12) (M 13) (M 14) (M 15) (M 16) (M 17) (M 18) (M 19) (M 20) (M 21) (M 22) (M 23) (M 24) (M 25) (M 26) (M 27) (M 28), arI X (d 1) 122 w, arA X (d 2) 8 (rq r q)] ++ ((rwW X r C))) A9 s9.heap H locs := hw
  refine W.eq (g2 := F0 m9 10 ls [.int (iI z1)]) rfl ?_
  refine lo_if_ne (tgt := 26) E dX8_skipMonth_10 (by decide) (by omega) (fun c3 => ?_) (fun c3 => ?_)
  · skip
    refine lv_iconst (v := iI 0) Ex Eb dX8_skipMonth_26 rfl ?_
    exact lo_iret E hRt hLk hK hAe hw dX8_skipMonth_27 rfl ⟨uI M 0 t2, w, q, C, 0, (fun k h0 h3 hk h8 => by first | (simp [uI, h0, h3, q38_0 k hk, q16_0 k hk]; done) | (simp [uI, h0, h3, q16_0 k hk]; done) | (simp [uI, h0, h3]; done)), (by first | (exfalso; omega) | (exact Or.inl ⟨(by first | (simp [uI, q38_0 0 (by omega), q16_0 0 (by omega)] <;> omega) | (omega)), by first | trivial | omega, rfl, rfl, (by first | (simp [uI, q38_0 3 (by omega), q16_0 3 (by omega)] <;> omega) | (omega)), by rw [hn3], by rw [hn3]⟩) | (exact Or.inr (Or.inl ⟨(by first | (simp [uI, q16_0 0 (by omega)] <;> omega) | (simp [uI] <;> omega) | (omega)), by omega, rfl, rfl, (by first | (simp [uI, q16_0 3 (by omega)] <;> omega) | (simp [uI] <;> omega) | (omega)), rfl, rfl⟩)) | (exact Or.inr (Or.inr (⟨(by first | (simp [uI, q16_0 0 (by omega)] <;> omega) | (simp [uI] <;> omega) | (omega)), by omega, rfl, rfl, (by first | (simp [uI, q16_0 3 (by omega)] <;> omega) | (simp [uI] <;> omega) | (omega)), rfl, rfl⟩)))), rfl, rfl⟩
  · skip
    have hLi := hL i (by omega) (by omega)
    have hb9 : 0 ≤ wOf w i 1 ∧ wOf w i 1 ≤ 9999999 := hLi.1
    have hm9 : 0 ≤ wOf w i 3 ∧ wOf w i 3 ≤ 120 := hLi.2.2.2.1
    refine lv_aload_n Ex Eb dX8_skipMonth_13 rfl (lv_at hl 0 rfl) ?_
    refine lv_aload_n Ex Eb dX8_skipMonth_14 rfl (lv_at hl 0 rfl) ?_
    refine lv_iload_n Ex Eb dX8_skipMonth_15 rfl (lv_at hl 1 rfl) ?_
    refine lo_callV (q0 := 0) (rest := [.ref (d 0)]) E hK hw (kX8_cannotSkip l X d (uI M 0 t2) w i (by omega) (hLi)) (cwV 1 E.2.2.2.2 gX8_skipMonth_X8_cannotSkip rfl rfl rfl (by decide +kernel) ⟨Nat.le_of_ble_eq_true rfl, Nat.le_of_ble_eq_true rfl⟩) rfl rfl [0, 1] rfl (by decide) hl.1 rfl rfl (Nat.le_of_ble_eq_true rfl) dX8_skipMonth_16 ⟨Nat.le_of_ble_eq_true rfl, Nat.le_of_ble_eq_true rfl⟩ (fun v w1 H locs hq hw => ?_)
    obtain ⟨N4, z4, q16_0, q16_1, rfl, rfl⟩ := hq
    have hw : lo_Wd X ([oX8 (d 0) (N4 0) (d 1) (d 2) (N4 3) (d 3) (N4 5) (d 4) (d 5) (d 6) (N4 9) (d 7) (N4 11) (N4 12) (N4 13) (N4 14) (N4 15) (N4 16) (N4 17) (N4 18) (N4 19) (N4 20) (N4 21) (N4 22) (N4 23) (N4 24) (N4 25) (N4 26) (N4 27) (N4 28), arI X (d 1) 122 w, arA X (d 2) 8 (rq r q)] ++ ((rwW X r C))) A9 s9.heap H locs := hw
    refine W.eq (g2 := F0 m9 19 ls [.int (iI z4), .ref (d 0)]) rfl ?_
    have hn3 : N4 3 = M 3 := (q16_0 3 (Or.inl (by omega))).trans (by simp [uI])
    have hn0 : N4 0 = 0 := (q16_0 0 (Or.inl (by omega))).trans (by simp [uI] <;> omega)
    refine lv_iconst (v := iI 2) Ex Eb dX8_skipMonth_19 rfl ?_
    refine lo_callV (q0 := 0) (rest := []) E hK hw (kX8_raise l X d N4 z4 2 (by omega)) (cwV 2 E.2.2.2.2 gX8_skipMonth_X8_raise rfl rfl rfl (by decide +kernel) ⟨Nat.le_of_ble_eq_true rfl, Nat.le_of_ble_eq_true rfl⟩) rfl rfl [0] rfl (by decide) hl.1 rfl rfl (Nat.le_of_ble_eq_true rfl) dX8_skipMonth_20 ⟨Nat.le_of_ble_eq_true rfl, Nat.le_of_ble_eq_true rfl⟩ (fun v w1 H locs hq hw => ?_)
    obtain ⟨t5, q20_0, rfl, rfl⟩ := hq
    have hw : lo_Wd X ([oX8 (d 0) t5 (d 1) (d 2) (N4 3) (d 3) (N4 5) (d 4) (d 5) (d 6) (N4 9) (d 7) (N4 11) (N4 12) (N4 13) (N4 14) (N4 15) (N4 16) (N4 17) (N4 18) (N4 19) (N4 20) (N4 21) (N4 22) (N4 23) (N4 24) (N4 25) (N4 26) (N4 27) (N4 28), arI X (d 1) 122 w, arA X (d 2) 8 (rq r q)] ++ ((rwW X r C))) A9 s9.heap H locs := hw
    refine W.eq (g2 := F0 m9 23 ls [.int (iI z4)]) rfl ?_
    refine lo_if_eq (tgt := 28) E dX8_skipMonth_23 (by decide) (by omega) (fun c6 => ?_) (fun c6 => ?_)
    · skip
      refine lv_aload_n Ex Eb dX8_skipMonth_28 rfl (lv_at hl 0 rfl) ?_
      refine lv_aload_n Ex Eb dX8_skipMonth_29 rfl (lv_at hl 0 rfl) ?_
      refine lo_get E hK hw huRX8 1 hf9 rfl 0 rfl rfl (by decide) (v := .ref (d 1)) rfl dX8_skipMonth_30 ?_
      refine lo_callVE (q0 := 0) (rest := []) E hK hw hV (kX8_remember l X kS d r q (uI N4 0 t5) C (d 1) w (show 0 ≤ N4 3 ∧ N4 3 ≤ 8 by omega) (hq)) (cwV 1 E.2.2.2.2 gX8_skipMonth_X8_remember rfl rfl rfl (by decide +kernel) ⟨Nat.le_of_ble_eq_true rfl, Nat.le_of_ble_eq_true rfl⟩) rfl rfl [0, 1, 2, 3, 4, 5, 6, 7, 8, 9, 10] rfl (by decide) hl.1 rfl rfl (Nat.le_of_ble_eq_true rfl) dX8_skipMonth_33 ⟨Nat.le_of_ble_eq_true rfl, Nat.le_of_ble_eq_true rfl⟩ (fun v w1 H locs hq hw => ?_)
      obtain ⟨rfl, rfl⟩ := hq
      have hw : lo_Wd X ([oX8 (d 0) t5 (d 1) (d 2) (min ((N4 3) + 1) 8) (d 3) (N4 5) (d 4) (d 5) (d 6) (N4 9) (d 7) (N4 11) (N4 12) (N4 13) (N4 14) (N4 15) (N4 16) (N4 17) (N4 18) (N4 19) (N4 20) (N4 21) (N4 22) (N4 23) (N4 24) (N4 25) (N4 26) (N4 27) (N4 28), arI X (d 1) 122 w, arA X (d 2) 8 (rq r (rmQ q (N4 3)))] ++ ((rwW X r (rmC C q (N4 3) w)))) A9 s9.heap H locs := hw
      refine W.eq (g2 := F0 m9 36 ls []) rfl ?_
      refine lv_aload_n Ex Eb dX8_skipMonth_36 rfl (lv_at hl 0 rfl) ?_
      refine lv_iload_n Ex Eb dX8_skipMonth_37 rfl (lv_at hl 1 rfl) ?_
      refine lo_callV (q0 := 0) (rest := []) E hK hw (kX8_skip l X d (uI (uI N4 0 t5) 3 (min ((N4 3) + 1) 8)) w i (by omega) (hLi) (by omega) (by omega)) (cwV 1 E.2.2.2.2 gX8_skipMonth_X8_skip rfl rfl rfl (by decide +kernel) ⟨Nat.le_of_ble_eq_true rfl, Nat.le_of_ble_eq_true rfl⟩) rfl rfl [0, 1] rfl (by decide) hl.1 rfl rfl (Nat.le_of_ble_eq_true rfl) dX8_skipMonth_38 ⟨Nat.le_of_ble_eq_true rfl, Nat.le_of_ble_eq_true rfl⟩ (fun v w1 H locs hq hw => ?_)
      obtain ⟨N7, q38_0, rfl, rfl⟩ := hq
      have hw : lo_Wd X ([oX8 (d 0) (N7 0) (d 1) (d 2) (N7 3) (d 3) (N7 5) (d 4) (d 5) (d 6) (N7 9) (d 7) (N7 11) (N7 12) (N7 13) (N7 14) (N7 15) (N7 16) (N7 17) (N7 18) (N7 19) (N7 20) (N7 21) (N7 22) (N7 23) (N7 24) (N7 25) (N7 26) (N7 27) (N7 28), arI X (d 1) 122 (wDef w i), arA X (d 2) 8 (rq r (rmQ q (N4 3)))] ++ ((rwW X r (rmC C q (N4 3) w)))) A9 s9.heap H locs := hw
      refine W.eq (g2 := F0 m9 41 ls [.int (iI (fI (wOf w i 1) (wOf w i 2) (wOf w i 5)))]) rfl ?_
      exact lo_iret E hRt hLk hK hAe hw dX8_skipMonth_41 rfl ⟨N7, wDef w i, rmQ q (N4 3), rmC C q (N4 3) w, fI (wOf w i 1) (wOf w i 2) (wOf w i 5), (fun k h0 h3 hk h8 => by first | (simp [uI, h0, h3, q38_0 k hk, q16_0 k hk]; done) | (simp [uI, h0, h3, q16_0 k hk]; done) | (simp [uI, h0, h3]; done)), (by first | (exfalso; omega) | (exact Or.inl ⟨(by first | (simp [uI, q38_0 0 (by omega), q16_0 0 (by omega)] <;> omega) | (omega)), by first | trivial | omega, rfl, rfl, (by first | (simp [uI, q38_0 3 (by omega), q16_0 3 (by omega)] <;> omega) | (omega)), by rw [hn3], by rw [hn3]⟩) | (exact Or.inr (Or.inl ⟨(by first | (simp [uI, q16_0 0 (by omega)] <;> omega) | (simp [uI] <;> omega) | (omega)), by omega, rfl, rfl, (by first | (simp [uI, q16_0 3 (by omega)] <;> omega) | (simp [uI] <;> omega) | (omega)), rfl, rfl⟩)) | (exact Or.inr (Or.inr (⟨(by first | (simp [uI, q16_0 0 (by omega)] <;> omega) | (simp [uI] <;> omega) | (omega)), by omega, rfl, rfl, (by first | (simp [uI, q16_0 3 (by omega)] <;> omega) | (simp [uI] <;> omega) | (omega)), rfl, rfl⟩)))), rfl, rfl⟩
    · skip
      refine lv_iconst (v := iI 0) Ex Eb dX8_skipMonth_26 rfl ?_
      exact lo_iret E hRt hLk hK hAe hw dX8_skipMonth_27 rfl ⟨uI N4 0 t5, w, q, C, 0, (fun k h0 h3 hk h8 => by first | (simp [uI, h0, h3, q38_0 k hk, q16_0 k hk]; done) | (simp [uI, h0, h3, q16_0 k hk]; done) | (simp [uI, h0, h3]; done)), (by first | (exfalso; omega) | (exact Or.inl ⟨(by first | (simp [uI, q38_0 0 (by omega), q16_0 0 (by omega)] <;> omega) | (omega)), by first | trivial | omega, rfl, rfl, (by first | (simp [uI, q38_0 3 (by omega), q16_0 3 (by omega)] <;> omega) | (omega)), by rw [hn3], by rw [hn3]⟩) | (exact Or.inr (Or.inl ⟨(by first | (simp [uI, q16_0 0 (by omega)] <;> omega) | (simp [uI] <;> omega) | (omega)), by omega, rfl, rfl, (by first | (simp [uI, q16_0 3 (by omega)] <;> omega) | (simp [uI] <;> omega) | (omega)), rfl, rfl⟩)) | (exact Or.inr (Or.inr (⟨(by first | (simp [uI, q16_0 0 (by omega)] <;> omega) | (simp [uI] <;> omega) | (omega)), by omega, rfl, rfl, (by first | (simp [uI, q16_0 3 (by omega)] <;> omega) | (simp [uI] <;> omega) | (omega)), rfl, rfl⟩)))), rfl, rfl⟩
