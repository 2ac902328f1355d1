set_option maxHeartbeats 4000000 in
set_option maxRecDepth 100000 in
theorem kX8_pay (l : Launch) (X : KX) (kS : Nat → Nat) (d r q : Nat → Nat) (M : Nat → Int) (C : Nat → Nat → Int) (w : Nat → Int) (i : Int) (hpc : 0 ≤ M 3 ∧ M 3 ≤ 8) (hq : ∀ j, j < 8 → q j < 8) (hWI : WI w) (hi9 : i32 i) : CE l X kS yX8_pay wsX8_pay ({ frames := 4, cells := 0, slots := 0, locals := 88 }) [.ref (d 0), .int (iI i)] ([oX8 (d 0) (M 0) (d 1) (d 2) (M 3) (d 3) (M 5) (d 4) (d 5) (d 6) (M 9) (d 7) (M 11) (M 12) (M 13) (M 14) (M 15) (M 16) (M 17) (M 18) (M 19) (M 20) (M 21) (M 22) (M 23) (M 24) (M 25) (M 26) (M 27) (M 28), arI X (d 1) 122 w, arA X (d 2) 8 (rq r q)] ++ ((rwW X r C))) (fun v9 w9 => ∃ N : Nat → Int, ∃ u : Nat → Int, ∃ p : Nat → Nat, ∃ K : Nat → Nat → Int, ∃ z : Int, (sameQ M N) ∧ ((N 0 = 0 ∧ ((0 ≤ i ∧ i < w 0) ∧ 0 < wOf w i 1) ∧ u = wPay w i ∧ z = dueL (WL w i) ∧ N 3 = min (M 3 + 1) 8 ∧ p = rmQ q (M 3) ∧ K = rmC C q (M 3) w) ∨ (N 0 = 1 ∧ (¬ (0 ≤ i ∧ i < w 0)) ∧ u = w ∧ z = 0 ∧ N 3 = M 3 ∧ p = q ∧ K = C) ∨ (N 0 = 2 ∧ ((0 ≤ i ∧ i < w 0) ∧ wOf w i 1 ≤ 0) ∧ u = w ∧ z = 0 ∧ N 3 = M 3 ∧ p = q ∧ K = C)) ∧ v9 = some (.int (iI z)) ∧ w9 = [oX8 (d 0) (N 0) (d 1) (d 2) (N 3) (d 3) (N 5) (d 4) (d 5) (d 6) (N 9) (d 7) (N 11) (N 12) (N 13) (N 14) (N 15) (N 16) (N 17) (N 18) (N 19) (N 20) (N 21) (N 22) (N 23) (N 24) (N 25) (N 26) (N 27) (N 28), arI X (d 1) 122 u, arA X (d 2) 8 (rq r p)] ++ ((rwW X r K))) 0 0 := by
  refine lo_enterE (cc := cX8_pay) (maxL := 2) (ret := (some .int)) (lv := [(0, .ref (d 0)), (1, .int (iI i))]) (by decide) rfl rfl (Nat.le_of_ble_eq_true rfl) ?_
  intro p9 e9 s9 m9 bl9 me9 c9 A9 ls hAe E hRt hLk hK hl hw hV
  have Ex := E.1
  have Eb := E.2.1
  have huRX8 : ∀ w ∈ u_ws RX8 TX8 29, w ∈ wsX8_pay := by decide +kernel
  have hf56 : (Cond.fieldLink RX8 56 "LoanScheduleModel" "thrown" "I").before _ s9 = true := E.2.2.2.2 _ (List.mem_of_getElem? (i := 1) rfl)
  have hf9 : (Cond.fieldLink RX8 9 "LoanScheduleModel" "w" "[I").before _ s9 = true := E.2.2.2.2 _ (List.mem_of_getElem? (i := 2) rfl)
  obtain ⟨⟨hn0, hn1⟩, ⟨hb0, hb1⟩, hL⟩ := id hWI
  refine lv_aload_n Ex Eb dX8_pay_0 rfl (lv_at hl 0 rfl) ?_
  refine lv_iconst (v := iI 0) Ex Eb dX8_pay_1 rfl ?_
  refine lo_put E hK hw huRX8 tyX8 tyX8_ok nmX8 0 hf56 rfl 0 rfl rfl (by decide) rfl rfl rfl rfl (Nat.le_of_ble_eq_true rfl) (ws' := [oX8 (d 0) 0 (d 1) (d 2) (M 3) (d 3) (M 5) (d 4) (d 5) (d 6) (M 9) (d 7) (M 11) (M 12) (M 13) (M 14) (M 15) (M 16) (M 17) (M 18) (M 19) (M 20) (M 21) (M 22) (M 23) (M 24) (M 25) (M 26) (M 27) (M 28), arI X (d 1) 122 w, arA X (d 2) 8 (rq r q)] ++ ((rwW X r C))) rfl dX8_pay_2 (fun H locs hw => ?_)
  refine lv_aload_n Ex Eb dX8_pay_5 rfl (lv_at hl 0 rfl) ?_
  refine lv_iload_n Ex Eb dX8_pay_6 rfl (lv_at hl 1 rfl) ?_
  refine lo_callV (q0 := 0) (rest := []) E hK hw (kX8_noLoan l X d (uI M 0 0) w i (by omega) (by omega)) (cwV 1 E.2.2.2.2 gX8_pay_X8_noLoan rfl rfl rfl (by decide +kernel) ⟨Nat.le_of_ble_eq_true rfl, Nat.le_of_ble_eq_true rfl⟩) rfl rfl [0, 1] rfl (by decide) hl.1 rfl rfl (Nat.le_of_ble_eq_true rfl) dX8_pay_7 ⟨Nat.le_of_ble_eq_true rfl, Nat.le_of_ble_eq_true rfl⟩ (fun v w1 H locs hq hw => ?_)
  obtain ⟨z1, t2, q7_0, rfl, rfl⟩ := hq
  change (z1 = 0 ∧ t2 = 0 ∧ 0 ≤ i ∧ i < w 0) ∨ (z1 = 1 ∧ t2 = 1 ∧ ¬ (0 ≤ i ∧ i < w 0)) at q7_0
  have hw : lo_Wd X ([oX8 (d 0) t2 (d 1) (d 2) (M 3) (d 3) (M 5) (d 4) (d 5) (d 6) (M 9) (d 7) (M 11) (M 12) (M 13) (M 14) (M 15) (M 16) (M 17) (M 18) (M 19) (M 20) (M 21) (M 22) (M 23) (M 24) (M 25) (M 26) (M 27) (M 28), arI X (d 1) 122 w, arA X (d 2) 8 (rq r q)] ++ ((rwW X r C))) A9 s9.heap H locs := hw
  refine W.eq (g2 := F0 m9 10 ls [.int (iI z1)]) rfl ?_
  refine lo_if_ne (tgt := 34) E dX8_pay_10 (by decide) (by omega) (fun c3 => ?_) (fun c3 => ?_)
  · skip
    refine lv_iconst (v := iI 0) Ex Eb dX8_pay_34 rfl ?_
    exact lo_iret E hRt hLk hK hAe hw dX8_pay_35 rfl ⟨uI M 0 t2, w, q, C, 0, (fun k h0 h3 hk h8 => by first | (simp [uI, h0, h3, q46_0 k hk]; done) | (simp [uI, h0, h3]; done)), (by first | (exfalso; omega) | (exact Or.inl ⟨(by first | (simp [uI, q46_0 0 (by omega)] <;> omega) | (omega)), by omega, rfl, rfl, (by first | (simp [uI, q46_0 3 (by omega)] <;> omega) | (omega)), rfl, rfl⟩) | (exact Or.inr (Or.inl ⟨(by first | (simp [uI] <;> omega) | (omega)), by omega, rfl, rfl, (by first | (simp [uI] <;> omega) | (omega)), rfl, rfl⟩)) | (exact Or.inr (Or.inr (⟨(by first | (simp [uI] <;> omega) | (omega)), by omega, rfl, rfl, (by first | (simp [uI] <;> omega) | (omega)), rfl, rfl⟩)))), rfl, rfl⟩
  · skip
    have hLi := hL i (by omega) (by omega)
    have hb9 : 0 ≤ wOf w i 1 ∧ wOf w i 1 ≤ 9999999 := hLi.1
    have hm9 : 0 ≤ wOf w i 3 ∧ wOf w i 3 ≤ 120 := hLi.2.2.2.1
    refine lv_aload_n Ex Eb dX8_pay_13 rfl (lv_at hl 0 rfl) ?_
    refine lv_aload_n Ex Eb dX8_pay_14 rfl (lv_at hl 0 rfl) ?_
    refine lv_iload_n Ex Eb dX8_pay_15 rfl (lv_at hl 1 rfl) ?_
    refine lo_callV (q0 := 0) (rest := [.ref (d 0)]) E hK hw (kX8_isRunning l X d (uI M 0 t2) w i (by omega) (by omega)) (cwV 1 E.2.2.2.2 gX8_pay_X8_isRunning rfl rfl rfl (by decide +kernel) ⟨Nat.le_of_ble_eq_true rfl, Nat.le_of_ble_eq_true rfl⟩) rfl rfl [0, 1] rfl (by decide) hl.1 rfl rfl (Nat.le_of_ble_eq_true rfl) dX8_pay_16 ⟨Nat.le_of_ble_eq_true rfl, Nat.le_of_ble_eq_true rfl⟩ (fun v w1 H locs hq hw => ?_)
    obtain ⟨r4, q16_0, rfl, rfl⟩ := hq
    have hw : lo_Wd X ([oX8 (d 0) t2 (d 1) (d 2) (M 3) (d 3) (M 5) (d 4) (d 5) (d 6) (M 9) (d 7) (M 11) (M 12) (M 13) (M 14) (M 15) (M 16) (M 17) (M 18) (M 19) (M 20) (M 21) (M 22) (M 23) (M 24) (M 25) (M 26) (M 27) (M 28), arI X (d 1) 122 w, arA X (d 2) 8 (rq r q)] ++ ((rwW X r C))) A9 s9.heap H locs := hw
    refine W.eq (g2 := F0 m9 19 ls [.int (iI r4), .ref (d 0)]) rfl ?_
    refine lo_if_ne (tgt := 26) E dX8_pay_19 (by decide) (by omega) (fun c5 => ?_) (fun c5 => ?_)
    · skip
      refine lv_iconst (v := iI 0) Ex Eb dX8_pay_26 rfl ?_
      refine lv_iconst (v := iI 2) Ex Eb dX8_pay_27 rfl ?_
      refine lo_callV (q0 := 0) (rest := []) E hK hw (kX8_raise l X d (uI M 0 t2) 0 2 (by omega)) (cwV 2 E.2.2.2.2 gX8_pay_X8_raise rfl rfl rfl (by decide +kernel) ⟨Nat.le_of_ble_eq_true rfl, Nat.le_of_ble_eq_true rfl⟩) rfl rfl [0] rfl (by decide) hl.1 rfl rfl (Nat.le_of_ble_eq_true rfl) dX8_pay_28 ⟨Nat.le_of_ble_eq_true rfl, Nat.le_of_ble_eq_true rfl⟩ (fun v w1 H locs hq hw => ?_)
      obtain ⟨t6, q28_0, rfl, rfl⟩ := hq
      change (0 = 0 ∧ t6 = t2) ∨ (0 = 1 ∧ t6 = 2) at q28_0
      have hw : lo_Wd X ([oX8 (d 0) t6 (d 1) (d 2) (M 3) (d 3) (M 5) (d 4) (d 5) (d 6) (M 9) (d 7) (M 11) (M 12) (M 13) (M 14) (M 15) (M 16) (M 17) (M 18) (M 19) (M 20) (M 21) (M 22) (M 23) (M 24) (M 25) (M 26) (M 27) (M 28), arI X (d 1) 122 w, arA X (d 2) 8 (rq r q)] ++ ((rwW X r C))) A9 s9.heap H locs := hw
      refine W.eq (g2 := F0 m9 31 ls [.int (iI 0)]) rfl ?_
      refine lo_if_eq (tgt := 36) E dX8_pay_31 (by decide) (by omega) (fun c7 => ?_) (fun c7 => ?_)
      · skip
        refine lv_aload_n Ex Eb dX8_pay_36 rfl (lv_at hl 0 rfl) ?_
        refine lv_aload_n Ex Eb dX8_pay_37 rfl (lv_at hl 0 rfl) ?_
        refine lo_get E hK hw huRX8 1 hf9 rfl 0 rfl rfl (by decide) (v := .ref (d 1)) rfl dX8_pay_38 ?_
        refine lo_callVE (q0 := 0) (rest := []) E hK hw hV (kX8_remember l X kS d r q (uI M 0 t6) C (d 1) w (show 0 ≤ (M 3) ∧ (M 3) ≤ 8 by omega) (by omega)) (cwV 1 E.2.2.2.2 gX8_pay_X8_remember rfl rfl rfl (by decide +kernel) ⟨Nat.le_of_ble_eq_true rfl, Nat.le_of_ble_eq_true rfl⟩) rfl rfl [0, 1, 2, 3, 4, 5, 6, 7, 8, 9, 10] rfl (by decide) hl.1 rfl rfl (Nat.le_of_ble_eq_true rfl) dX8_pay_41 ⟨Nat.le_of_ble_eq_true rfl, Nat.le_of_ble_eq_true rfl⟩ (fun v w1 H locs hq hw => ?_)
        obtain ⟨rfl, rfl⟩ := hq
        have hw : lo_Wd X ([oX8 (d 0) t6 (d 1) (d 2) (min ((M 3) + 1) 8) (d 3) (M 5) (d 4) (d 5) (d 6) (M 9) (d 7) (M 11) (M 12) (M 13) (M 14) (M 15) (M 16) (M 17) (M 18) (M 19) (M 20) (M 21) (M 22) (M 23) (M 24) (M 25) (M 26) (M 27) (M 28), arI X (d 1) 122 w, arA X (d 2) 8 (rq r (rmQ q (M 3)))] ++ ((rwW X r (rmC C q (M 3) w)))) A9 s9.heap H locs := hw
        refine W.eq (g2 := F0 m9 44 ls []) rfl ?_
        refine lv_aload_n Ex Eb dX8_pay_44 rfl (lv_at hl 0 rfl) ?_
        refine lv_iload_n Ex Eb dX8_pay_45 rfl (lv_at hl 1 rfl) ?_
        refine lo_callV (q0 := 0) (rest := []) E hK hw (kX8_payOne l X d (uI (uI M 0 t6) 3 (min ((M 3) + 1) 8)) w i (by omega) (hLi) (by omega) (by omega)) (cwV 1 E.2.2.2.2 gX8_pay_X8_payOne rfl rfl rfl (by decide +kernel) ⟨Nat.le_of_ble_eq_true rfl, Nat.le_of_ble_eq_true rfl⟩) rfl rfl [0, 1] rfl (by decide) hl.1 rfl rfl (Nat.le_of_ble_eq_true rfl) dX8_pay_46 ⟨Nat.le_of_ble_eq_true rfl, Nat.le_of_ble_eq_true rfl⟩ (fun v w1 H locs hq hw => ?_)
        obtain ⟨N8, q46_0, rfl, rfl⟩ := hq
        have hw : lo_Wd X ([oX8 (d 0) (N8 0) (d 1) (d 2) (N8 3) (d 3) (N8 5) (d 4) (d 5) (d 6) (N8 9) (d 7) (N8 11) (N8 12) (N8 13) (N8 14) (N8 15) (N8 16) (N8 17) (N8 18) (N8 19) (N8 20) (N8 21) (N8 22) (N8 23) (N8 24) (N8 25) (N8 26) (N8 27) (N8 28), arI X (d 1) 122 (wPay w i), arA X (d 2) 8 (rq r (rmQ q (M 3)))] ++ ((rwW X r (rmC C q (M 3) w)))) A9 s9.heap H locs := hw
        refine W.eq (g2 := F0 m9 49 ls [.int (iI (dueL (WL w i)))]) rfl ?_
        exact lo_iret E hRt hLk hK hAe hw dX8_pay_49 rfl ⟨N8, wPay w i, rmQ q (M 3), rmC C q (M 3) w, dueL (WL w i), (fun k h0 h3 hk h8 => by first | (simp [uI, h0, h3, q46_0 k hk]; done) | (simp [uI, h0, h3]; done)), (by first | (exfalso; omega) | (exact Or.inl ⟨(by first | (simp [uI, q46_0 0 (by omega)] <;> omega) | (omega)), by omega, rfl, rfl, (by first | (simp [uI, q46_0 3 (by omega)] <;> omega) | (omega)), rfl, rfl⟩) | (exact Or.inr (Or.inl ⟨(by first | (simp [uI] <;> omega) | (omega)), by omega, rfl, rfl, (by first | (simp [uI] <;> omega) | (omega)), rfl, rfl⟩)) | (exact Or.inr (Or.inr (⟨(by first | (simp [uI] <;> omega) | (omega)), by omega, rfl, rfl, (by first | (simp [uI] <;> omega) | (omega)), rfl, rfl⟩)))), rfl, rfl⟩
      · skip
        refine lv_iconst (v := iI 0) Ex Eb dX8_pay_34 rfl ?_
        exact lo_iret E hRt hLk hK hAe hw dX8_pay_35 rfl ⟨uI M 0 t6, w, q, C, 0, (fun k h0 h3 hk h8 => by first | (simp [uI, h0, h3, q46_0 k hk]; done) | (simp [uI, h0, h3]; done)), (by first | (exfalso; omega) | (exact Or.inl ⟨(by first | (simp [uI, q46_0 0 (by omega)] <;> omega) | (omega)), by omega, rfl, rfl, (by first | (simp [uI, q46_0 3 (by omega)] <;> omega) | (omega)), rfl, rfl⟩) | (exact Or.inr (Or.inl ⟨(by first | (simp [uI] <;> omega) | (omega)), by omega, rfl, rfl, (by first | (simp [uI] <;> omega) | (omega)), rfl, rfl⟩)) | (exact Or.inr (Or.inr (⟨(by first | (simp [uI] <;> omega) | (omega)), by omega, rfl, rfl, (by first | (simp [uI] <;> omega) | (omega)), rfl, rfl⟩)))), rfl, rfl⟩
    · skip
      refine lv_iconst (v := iI 1) Ex Eb dX8_pay_22 rfl ?_
      refine lv_goto (tgt := 27) Ex Eb dX8_pay_23 (by decide) ?_
      refine lv_iconst (v := iI 2) Ex Eb dX8_pay_27 rfl ?_
      refine lo_callV (q0 := 0) (rest := []) E hK hw (kX8_raise l X d (uI M 0 t2) 1 2 (by omega)) (cwV 2 E.2.2.2.2 gX8_pay_X8_raise rfl rfl rfl (by decide +kernel) ⟨Nat.le_of_ble_eq_true rfl, Nat.le_of_ble_eq_true rfl⟩) rfl rfl [0] rfl (by decide) hl.1 rfl rfl (Nat.le_of_ble_eq_true rfl) dX8_pay_28 ⟨Nat.le_of_ble_eq_true rfl, Nat.le_of_ble_eq_true rfl⟩ (fun v w1 H locs hq hw => ?_)
      obtain ⟨t9, q28_0, rfl, rfl⟩ := hq
      change (1 = 0 ∧ t9 = t2) ∨ (1 = 1 ∧ t9 = 2) at q28_0
      have hw : lo_Wd X ([oX8 (d 0) t9 (d 1) (d 2) (M 3) (d 3) (M 5) (d 4) (d 5) (d 6) (M 9) (d 7) (M 11) (M 12) (M 13) (M 14) (M 15) (M 16) (M 17) (M 18) (M 19) (M 20) (M 21) (M 22) (M 23) (M 24) (M 25) (M 26) (M 27) (M 28), arI X (d 1) 122 w, arA X (d 2) 8 (rq r q)] ++ ((rwW X r C))) A9 s9.heap H locs := hw
      refine W.eq (g2 := F0 m9 31 ls [.int (iI 1)]) rfl ?_
      refine lo_if_eq (tgt := 36) E dX8_pay_31 (by decide) (by omega) (fun c10 => ?_) (fun c10 => ?_)
      · skip
        refine lv_aload_n Ex Eb dX8_pay_36 rfl (lv_at hl 0 rfl) ?_
        refine lv_aload_n Ex Eb dX8_pay_37 rfl (lv_at hl 0 rfl) ?_
        refine lo_get E hK hw huRX8 1 hf9 rfl 0 rfl rfl (by decide) (v := .ref (d 1)) rfl dX8_pay_38 ?_
        refine lo_callVE (q0 := 0) (rest := []) E hK hw hV (kX8_remember l X kS d r q (uI M 0 t9) C (d 1) w (show 0 ≤ (M 3) ∧ (M 3) ≤ 8 by omega) (by omega)) (cwV 1 E.2.2.2.2 gX8_pay_X8_remember rfl rfl rfl (by decide +kernel) ⟨Nat.le_of_ble_eq_true rfl, Nat.le_of_ble_eq_true rfl⟩) rfl rfl [0, 1, 2, 3, 4, 5, 6, 7, 8, 9, 10] rfl (by decide) hl.1 rfl rfl (Nat.le_of_ble_eq_true rfl) dX8_pay_41 ⟨Nat.le_of_ble_eq_true rfl, Nat.le_of_ble_eq_true rfl⟩ (fun v w1 H locs hq hw => ?_)
        obtain ⟨rfl, rfl⟩ := hq
        have hw : lo_Wd X ([oX8 (d 0) t9 (d 1) (d 2) (min ((M 3) + 1) 8) (d 3) (M 5) (d 4) (d 5) (d 6) (M 9) (d 7) (M 11) (M 12) (M 13) (M 14) (M 15) (M 16) (M 17) (M 18) (M 19) (M 20) (M 21) (M 22) (M 23) (M 24) (M 25) (M 26) (M 27) (M 28), arI X (d 1) 122 w, arA X (d 2) 8 (rq r (rmQ q (M 3)))] ++ ((rwW X r (rmC C q (M 3) w)))) A9 s9.heap H locs := hw
        refine W.eq (g2 := F0 m9 44 ls []) rfl ?_
        refine lv_aload_n Ex Eb dX8_pay_44 rfl (lv_at hl 0 rfl) ?_
        refine lv_iload_n Ex Eb dX8_pay_45 rfl (lv_at hl 1 rfl) ?_
        refine lo_callV (q0 := 0) (rest := []) E hK hw (kX8_payOne l X d (uI (uI M 0 t9) 3 (min ((M 3) + 1) 8)) w i (by omega) (hLi) (by omega) (by omega)) (cwV 1 E.2.2.2.2 gX8_pay_X8_payOne rfl rfl rfl (by decide +kernel) ⟨Nat.le_of_ble_eq_true rfl, Nat.le_of_ble_eq_true rfl⟩) rfl rfl [0, 1] rfl (by decide) hl.1 rfl rfl (Nat.le_of_ble_eq_true rfl) dX8_pay_46 ⟨Nat.le_of_ble_eq_true rfl, Nat.le_of_ble_eq_true rfl⟩ (fun v w1 H locs hq hw => ?_)
        obtain ⟨N11, q46_0, rfl, rfl⟩ := hq
        have hw : lo_Wd X ([oX8 (d 0) (N11 0) (d 1) (d 2) (N11 3) (d 3) (N11 5) (d 4) (d 5) (d 6) (N11 9) (d 7) (N11 11) (N11 12) (N11 13) (N11 14) (N11 15) (N11 16) (N11 17) (N11 18) (N11 19) (N11 20) (N11 21) (N11 22) (N11 23) (N11 24) (N11 25) (N11 26) (N11 27) (N11 28), arI X (d 1) 122 (wPay w i), arA X (d 2) 8 (rq r (rmQ q (M 3)))] ++ ((rwW X r (rmC C q (M 3) w)))) A9 s9.heap H locs := hw
        refine W.eq (g2 := F0 m9 49 ls [.int (iI (dueL (WL w i)))]) rfl ?_
        exact lo_iret E hRt hLk hK hAe hw dX8_pay_49 rfl ⟨N11, wPay w i, rmQ q (M 3), rmC C q (M 3) w, dueL (WL w i), (fun k h0 h3 hk h8 => by first | (simp [uI, h0, h3, q46_0 k hk]; done) | (simp [uI, h0, h3]; done)), (by first | (exfalso; omega) | (exact Or.inl ⟨(by first | (simp [uI, q46_0 0 (by omega)] <;> omega) | (omega)), by omega, rfl, rfl, (by first | (simp [uI, q46_0 3 (by omega)] <;> omega) | (omega)), rfl, rfl⟩) | (exact Or.inr (Or.inl ⟨(by first | (simp [uI] <;> omega) | (omega)), by omega, rfl, rfl, (by first | (simp [uI] <;> omega) | (omega)), rfl, rfl⟩)) | (exact Or.inr (Or.inr (⟨(by first | (simp [uI] <;> omega) | (omega)), by omega, rfl, rfl, (by first | (simp [uI] <;> omega) | (omega)), rfl, rfl⟩)))), rfl, rfl⟩
      · skip
        refine lv_iconst (v := iI 0) Ex Eb dX8_pay_34 rfl ?_
        exact lo_iret E hRt hLk hK hAe hw dX8_pay_35 rfl ⟨uI M 0 t9, w, q, C, 0, (fun k h0 h3 hk h8 => by first | (simp [uI, h0, h3, q46_0 k hk]; done) | (simp [uI, h0, h3]; done)), (by first | (exfalso; omega) | (exact Or.inl ⟨(by first | (simp [uI, q46_0 0 (by omega)] <;> omega) | (omega)), by omega, rfl, rfl, (by first | (simp [uI, q46_0 3 (by omega)] <;> omega) | (omega)), rfl, rfl⟩) | (exact Or.inr (Or.inl ⟨(by first | (simp [uI] <;> omega) | (omega)), by omega, rfl, rfl, (by first | (simp [uI] <;> omega) | (omega)), rfl, rfl⟩)) | (exact Or.inr (Or.inr (⟨(by first | (simp [uI] <;> omega) | (omega)), by omega, rfl, rfl, (by first | (simp [uI] <;> omega) | (omega)), rfl, rfl⟩)))), rfl, rfl⟩
set_option maxHeartbeats 4000000 in
set_option maxRecDepth 100000 in
theorem kX8_payExtra (l : Launch) (X : KX) (kS : Nat → Nat) (d r q : Nat → Nat) (M : Nat → Int) (C : Nat → Nat → Int) (w : Nat → Int) (i : Int) (a : Int) (y : Int) (hpc : 0 ≤ M 3 ∧ M 3 ≤ 8) (hq : ∀ j, j < 8 → q j < 8) (hWI : WI w) (hi9 : i32 i) (ha9 : i32 a) (hy : y = 0 ∨ y = 1) : CE l X kS yX8_payExtra wsX8_payExtra ({ frames := 6, cells := 0, slots := 0, locals := 151 }) [.ref (d 0), .int (iI i), .int (iI a), .int (iI y)] ([oX8 (d 0) (M 0) (d 1) (d 2) (M 3) (d 3) (M 5) (d 4) (d 5) (d 6) (M 9) (d 7) (M 11) (M 12) (M 13) (M 14) (M 15) (M 16) (M 17) (M 18) (M 19) (M 20) (M 21) (M 22) (M 23) (M 24) (M 25) (M 26) (M 27) (M 28), arI X (d 1) 122 w, arA X (d 2) 8 (rq r q)] ++ ((rwW X r C))) (fun v9 w9 => ∃ N : Nat → Int, ∃ u : Nat → Int, ∃ p : Nat → Nat, ∃ K : Nat → Nat → Int, ∃ z : Int, (sameQ M N) ∧ ((N 0 = 0 ∧ ((0 ≤ i ∧ i < w 0) ∧ 1 ≤ a ∧ 0 < wOf w i 1 ∧ a ≤ wOf w i 1) ∧ u = wRed w i a y ∧ z = wOf (wRed w i a y) i 1 ∧ N 3 = min (M 3 + 1) 8 ∧ p = rmQ q (M 3) ∧ K = rmC C q (M 3) w) ∨ (N 0 = 1 ∧ (¬ (0 ≤ i ∧ i < w 0)) ∧ u = w ∧ z = 0 ∧ N 3 = M 3 ∧ p = q ∧ K = C) ∨ (N 0 = 2 ∧ ((0 ≤ i ∧ i < w 0) ∧ ¬ (1 ≤ a ∧ a ≤ 9999999)) ∧ u = w ∧ z = 0 ∧ N 3 = M 3 ∧ p = q ∧ K = C) ∨ (N 0 = 3 ∧ ((0 ≤ i ∧ i < w 0) ∧ (1 ≤ a ∧ a ≤ 9999999) ∧ ¬ (0 < wOf w i 1 ∧ a ≤ wOf w i 1)) ∧ u = w ∧ z = 0 ∧ N 3 = M 3 ∧ p = q ∧ K = C)) ∧ v9 = some (.int (iI z)) ∧ w9 = [oX8 (d 0) (N 0) (d 1) (d 2) (N 3) (d 3) (N 5) (d 4) (d 5) (d 6) (N 9) (d 7) (N 11) (N 12) (N 13) (N 14) (N 15) (N 16) (N 17) (N 18) (N 19) (N 20) (N 21) (N 22) (N 23) (N 24) (N 25) (N 26) (N 27) (N 28), arI X (d 1) 122 u, arA X (d 2) 8 (rq r p)] ++ ((rwW X r K))) 0 0 := by
  refine lo_enterE (cc := cX8_payExtra) (maxL := 4) (ret := (some .int)) (lv := [(0, .ref (d 0)), (1, .int (iI i)), (2, .int (iI a)), (3, .int (iI y))]) (by decide) rfl rfl (Nat.le_of_ble_eq_true rfl) ?_
  intro p9 e9 s9 m9 bl9 me9 c9 A9 ls hAe E hRt hLk hK hl hw hV
  have Ex := E.1
  have Eb := E.2.1
  have huRX8 : ∀ w ∈ u_ws RX8 TX8 29, w ∈ wsX8_payExtra := by decide +kernel
  have hf56 : (Cond.fieldLink RX8 56 "LoanScheduleModel" "thrown" "I").before _ s9 = true := E.2.2.2.2 _ (List.mem_of_getElem? (i := 1) rfl)
  have hc154 : (Cond.constant RX8 154 (9999999)).before _ s9 = true := E.2.2.2.2 _ (List.mem_of_getElem? (i := 2) rfl)
  have hf9 : (Cond.fieldLink RX8 9 "LoanScheduleModel" "w" "[I").before _ s9 = true := E.2.2.2.2 _ (List.mem_of_getElem? (i := 3) rfl)
  obtain ⟨⟨hn0, hn1⟩, ⟨hb0, hb1⟩, hL⟩ := id hWI
  refine lv_aload_n Ex Eb dX8_payExtra_0 rfl (lv_at hl 0 rfl) ?_
  refine lv_iconst (v := iI 0) Ex Eb dX8_payExtra_1 rfl ?_
  refine lo_put E hK hw huRX8 tyX8 tyX8_ok nmX8 0 hf56 rfl 0 rfl rfl (by decide) rfl rfl rfl rfl (Nat.le_of_ble_eq_true rfl) (ws' := [oX8 (d 0) 0 (d 1) (d 2) (M 3) (d 3) (M 5) (d 4) (d 5) (d 6) (M 9) (d 7) (M 11) (M 12) (M 13) (M 14) (M 15) (M 16) (M 17) (M 18) (M 19) (M 20) (M 21) (M 22) (M 23) (M 24) (M 25) (M 26) (M 27) (M 28), arI X (d 1) 122 w, arA X (d 2) 8 (rq r q)] ++ ((rwW X r C))) rfl dX8_payExtra_2 (fun H locs hw => ?_)
  refine lv_aload_n Ex Eb dX8_payExtra_5 rfl (lv_at hl 0 rfl) ?_
  refine lv_iload_n Ex Eb dX8_payExtra_6 rfl (lv_at hl 1 rfl) ?_
  refine lo_callV (q0 := 0) (rest := []) E hK hw (kX8_noLoan l X d (uI M 0 0) w i (by omega) (by omega)) (cwV 1 E.2.2.2.2 gX8_payExtra_X8_noLoan rfl rfl rfl (by decide +kernel) ⟨Nat.le_of_ble_eq_true rfl, Nat.le_of_ble_eq_true rfl⟩) rfl rfl [0, 1] rfl (by decide) hl.1 rfl rfl (Nat.le_of_ble_eq_true rfl) dX8_payExtra_7 ⟨Nat.le_of_ble_eq_true rfl, Nat.le_of_ble_eq_true rfl⟩ (fun v w1 H locs hq hw => ?_)
  obtain ⟨z1, t2, q7_0, rfl, rfl⟩ := hq
  change (z1 = 0 ∧ t2 = 0 ∧ 0 ≤ i ∧ i < w 0) ∨ (z1 = 1 ∧ t2 = 1 ∧ ¬ (0 ≤ i ∧ i < w 0)) at q7_0
  have hw : lo_Wd X ([oX8 (d 0) t2 (d 1) (d 2) (M 3) (d 3) (M 5) (d 4) (d 5) (d 6) (M 9) (d 7) (M 11) (M 12) (M 13) (M 14) (M 15) (M 16) (M 17) (M 18) (M 19) (M 20) (M 21) (M 22) (M 23) (M 24) (M 25) (M 26) (M 27) (M 28), arI X (d 1) 122 w, arA X (d 2) 8 (rq r q)] ++ ((rwW X r C))) A9 s9.heap H locs := hw
  refine W.eq (g2 := F0 m9 10 ls [.int (iI z1)]) rfl ?_
  refine lo_if_ne (tgt := 39) E dX8_payExtra_10 (by decide) (by omega) (fun c3 => ?_) (fun c3 => ?_)
  · skip
    refine lv_iconst (v := iI 0) Ex Eb dX8_payExtra_39 rfl ?_
    exact lo_iret E hRt hLk hK hAe hw dX8_payExtra_40 rfl ⟨uI M 0 t2, w, q, C, 0, (fun k h0 h3 hk h8 => by first | (simp [uI, h0, h3, q53_0 k hk]; done) | (simp [uI, h0, h3]; done)), (by first | (exfalso; omega) | (exact Or.inl ⟨(by first | (simp [uI, q53_0 0 (by omega)] <;> omega) | (omega)), by omega, rfl, rfl, (by first | (simp [uI, q53_0 3 (by omega)] <;> omega) | (omega)), rfl, rfl⟩) | (exact Or.inr (Or.inl ⟨(by first | (simp [uI] <;> omega) | (omega)), by omega, rfl, rfl, (by first | (simp [uI] <;> omega) | (omega)), rfl, rfl⟩)) | (exact Or.inr (Or.inr (Or.inl ⟨(by first | (simp [uI] <;> omega) | (omega)), by omega, rfl, rfl, (by first | (simp [uI] <;> omega) | (omega)), rfl, rfl⟩))) | (exact Or.inr (Or.inr (Or.inr (⟨(by first | (simp [uI] <;> omega) | (omega)), by omega, rfl, rfl, (by first | (simp [uI] <;> omega) | (omega)), rfl, rfl⟩))))), rfl, rfl⟩
  · skip
    refine lv_aload_n Ex Eb dX8_payExtra_13 rfl (lv_at hl 0 rfl) ?_
    refine lv_iload_n Ex Eb dX8_payExtra_14 rfl (lv_at hl 2 rfl) ?_
    refine lv_iconst (v := iI 1) Ex Eb dX8_payExtra_15 rfl ?_
    refine lo_ldc (z := 9999999) E hc154 dX8_payExtra_16 rfl ?_
    refine lv_iconst (v := iI 2) Ex Eb dX8_payExtra_18 rfl ?_
    refine lo_callV (q0 := 0) (rest := []) E hK hw (kX8_outside l X d (uI M 0 t2) a 1 9999999 2 (by omega) (by omega) (by omega)) (cwV 4 E.2.2.2.2 gX8_payExtra_X8_outside rfl rfl rfl (by decide +kernel) ⟨Nat.le_of_ble_eq_true rfl, Nat.le_of_ble_eq_true rfl⟩) rfl rfl [0] rfl (by decide) hl.1 rfl rfl (Nat.le_of_ble_eq_true rfl) dX8_payExtra_19 ⟨Nat.le_of_ble_eq_true rfl, Nat.le_of_ble_eq_true rfl⟩ (fun v w1 H locs hq hw => ?_)
    obtain ⟨z4, t5, q19_0, rfl, rfl⟩ := hq
    change (z4 = 0 ∧ t5 = t2 ∧ 1 ≤ a ∧ a ≤ 9999999) ∨ (z4 = 1 ∧ t5 = 2 ∧ ¬ (1 ≤ a ∧ a ≤ 9999999)) at q19_0
    have hw : lo_Wd X ([oX8 (d 0) t5 (d 1) (d 2) (M 3) (d 3) (M 5) (d 4) (d 5) (d 6) (M 9) (d 7) (M 11) (M 12) (M 13) (M 14) (M 15) (M 16) (M 17) (M 18) (M 19) (M 20) (M 21) (M 22) (M 23) (M 24) (M 25) (M 26) (M 27) (M 28), arI X (d 1) 122 w, arA X (d 2) 8 (rq r q)] ++ ((rwW X r C))) A9 s9.heap H locs := hw
    refine W.eq (g2 := F0 m9 22 ls [.int (iI z4)]) rfl ?_
    refine lo_if_ne (tgt := 39) E dX8_payExtra_22 (by decide) (by omega) (fun c6 => ?_) (fun c6 => ?_)
    · skip
      refine lv_iconst (v := iI 0) Ex Eb dX8_payExtra_39 rfl ?_
      exact lo_iret E hRt hLk hK hAe hw dX8_payExtra_40 rfl ⟨uI M 0 t5, w, q, C, 0, (fun k h0 h3 hk h8 => by first | (simp [uI, h0, h3, q53_0 k hk]; done) | (simp [uI, h0, h3]; done)), (by first | (exfalso; omega) | (exact Or.inl ⟨(by first | (simp [uI, q53_0 0 (by omega)] <;> omega) | (omega)), by omega, rfl, rfl, (by first | (simp [uI, q53_0 3 (by omega)] <;> omega) | (omega)), rfl, rfl⟩) | (exact Or.inr (Or.inl ⟨(by first | (simp [uI] <;> omega) | (omega)), by omega, rfl, rfl, (by first | (simp [uI] <;> omega) | (omega)), rfl, rfl⟩)) | (exact Or.inr (Or.inr (Or.inl ⟨(by first | (simp [uI] <;> omega) | (omega)), by omega, rfl, rfl, (by first | (simp [uI] <;> omega) | (omega)), rfl, rfl⟩))) | (exact Or.inr (Or.inr (Or.inr (⟨(by first | (simp [uI] <;> omega) | (omega)), by omega, rfl, rfl, (by first | (simp [uI] <;> omega) | (omega)), rfl, rfl⟩))))), rfl, rfl⟩
    · skip
      have hLi := hL i (by omega) (by omega)
      have hb9 : 0 ≤ wOf w i 1 ∧ wOf w i 1 ≤ 9999999 := hLi.1
      have hm9 : 0 ≤ wOf w i 3 ∧ wOf w i 3 ≤ 120 := hLi.2.2.2.1
      refine lv_aload_n Ex Eb dX8_payExtra_25 rfl (lv_at hl 0 rfl) ?_
      refine lv_aload_n Ex Eb dX8_payExtra_26 rfl (lv_at hl 0 rfl) ?_
      refine lv_iload_n Ex Eb dX8_payExtra_27 rfl (lv_at hl 1 rfl) ?_
      refine lv_iload_n Ex Eb dX8_payExtra_28 rfl (lv_at hl 2 rfl) ?_
      refine lo_callV (q0 := 0) (rest := [.ref (d 0)]) E hK hw (kX8_cannotPayExtra l X d (uI M 0 t5) w i a (by omega) (hLi) (by omega)) (cwV 2 E.2.2.2.2 gX8_payExtra_X8_cannotPayExtra rfl rfl rfl (by decide +kernel) ⟨Nat.le_of_ble_eq_true rfl, Nat.le_of_ble_eq_true rfl⟩) rfl rfl [0, 1] rfl (by decide) hl.1 rfl rfl (Nat.le_of_ble_eq_true rfl) dX8_payExtra_29 ⟨Nat.le_of_ble_eq_true rfl, Nat.le_of_ble_eq_true rfl⟩ (fun v w1 H locs hq hw => ?_)
      obtain ⟨z7, q29_0, rfl, rfl⟩ := hq
      have hw : lo_Wd X ([oX8 (d 0) t5 (d 1) (d 2) (M 3) (d 3) (M 5) (d 4) (d 5) (d 6) (M 9) (d 7) (M 11) (M 12) (M 13) (M 14) (M 15) (M 16) (M 17) (M 18) (M 19) (M 20) (M 21) (M 22) (M 23) (M 24) (M 25) (M 26) (M 27) (M 28), arI X (d 1) 122 w, arA X (d 2) 8 (rq r q)] ++ ((rwW X r C))) A9 s9.heap H locs := hw
      refine W.eq (g2 := F0 m9 32 ls [.int (iI z7), .ref (d 0)]) rfl ?_
      refine lv_iconst (v := iI 3) Ex Eb dX8_payExtra_32 rfl ?_
      refine lo_callV (q0 := 0) (rest := []) E hK hw (kX8_raise l X d (uI M 0 t5) z7 3 (by omega)) (cwV 2 E.2.2.2.2 gX8_payExtra_X8_raise rfl rfl rfl (by decide +kernel) ⟨Nat.le_of_ble_eq_true rfl, Nat.le_of_ble_eq_true rfl⟩) rfl rfl [0] rfl (by decide) hl.1 rfl rfl (Nat.le_of_ble_eq_true rfl) dX8_payExtra_33 ⟨Nat.le_of_ble_eq_true rfl, Nat.le_of_ble_eq_true rfl⟩ (fun v w1 H locs hq hw => ?_)
      obtain ⟨t8, q33_0, rfl, rfl⟩ := hq
      change (z7 = 0 ∧ t8 = t5) ∨ (z7 = 1 ∧ t8 = 3) at q33_0
      have hw : lo_Wd X ([oX8 (d 0) t8 (d 1) (d 2) (M 3) (d 3) (M 5) (d 4) (d 5) (d 6) (M 9) (d 7) (M 11) (M 12) (M 13) (M 14) (M 15) (M 16) (M 17) (M 18) (M 19) (M 20) (M 21) (M 22) (M 23) (M 24) (M 25) (M 26) (M 27) (M 28), arI X (d 1) 122 w, arA X (d 2) 8 (rq r q)] ++ ((rwW X r C))) A9 s9.heap H locs := hw
      refine W.eq (g2 := F0 m9 36 ls [.int (iI z7)]) rfl ?_
      refine lo_if_eq (tgt := 41) E dX8_payExtra_36 (by decide) (by omega) (fun c9 => ?_) (fun c9 => ?_)
      · skip
        refine lv_aload_n Ex Eb dX8_payExtra_41 rfl (lv_at hl 0 rfl) ?_
        refine lv_aload_n Ex Eb dX8_payExtra_42 rfl (lv_at hl 0 rfl) ?_
        refine lo_get E hK hw huRX8 1 hf9 rfl 0 rfl rfl (by decide) (v := .ref (d 1)) rfl dX8_payExtra_43 ?_
        refine lo_callVE (q0 := 0) (rest := []) E hK hw hV (kX8_remember l X kS d r q (uI M 0 t8) C (d 1) w (show 0 ≤ (M 3) ∧ (M 3) ≤ 8 by omega) (by omega)) (cwV 1 E.2.2.2.2 gX8_payExtra_X8_remember rfl rfl rfl (by decide +kernel) ⟨Nat.le_of_ble_eq_true rfl, Nat.le_of_ble_eq_true rfl⟩) rfl rfl [0, 1, 2, 3, 4, 5, 6, 7, 8, 9, 10] rfl (by decide) hl.1 rfl rfl (Nat.le_of_ble_eq_true rfl) dX8_payExtra_46 ⟨Nat.le_of_ble_eq_true rfl, Nat.le_of_ble_eq_true rfl⟩ (fun v w1 H locs hq hw => ?_)
        obtain ⟨rfl, rfl⟩ := hq
        have hw : lo_Wd X ([oX8 (d 0) t8 (d 1) (d 2) (min ((M 3) + 1) 8) (d 3) (M 5) (d 4) (d 5) (d 6) (M 9) (d 7) (M 11) (M 12) (M 13) (M 14) (M 15) (M 16) (M 17) (M 18) (M 19) (M 20) (M 21) (M 22) (M 23) (M 24) (M 25) (M 26) (M 27) (M 28), arI X (d 1) 122 w, arA X (d 2) 8 (rq r (rmQ q (M 3)))] ++ ((rwW X r (rmC C q (M 3) w)))) A9 s9.heap H locs := hw
        refine W.eq (g2 := F0 m9 49 ls []) rfl ?_
        refine lv_aload_n Ex Eb dX8_payExtra_49 rfl (lv_at hl 0 rfl) ?_
        refine lv_iload_n Ex Eb dX8_payExtra_50 rfl (lv_at hl 1 rfl) ?_
        refine lv_iload_n Ex Eb dX8_payExtra_51 rfl (lv_at hl 2 rfl) ?_
        refine lv_iload_n Ex Eb dX8_payExtra_52 rfl (lv_at hl 3 rfl) ?_
        refine lo_callV (q0 := 0) (rest := []) E hK hw (kX8_extra l X d (uI (uI M 0 t8) 3 (min ((M 3) + 1) 8)) w i a y (by omega) (hLi) (by omega) (by omega) (by omega) (by omega)) (cwV 3 E.2.2.2.2 gX8_payExtra_X8_extra rfl rfl rfl (by decide +kernel) ⟨Nat.le_of_ble_eq_true rfl, Nat.le_of_ble_eq_true rfl⟩) rfl rfl [0, 1] rfl (by decide) hl.1 rfl rfl (Nat.le_of_ble_eq_true rfl) dX8_payExtra_53 ⟨Nat.le_of_ble_eq_true rfl, Nat.le_of_ble_eq_true rfl⟩ (fun v w1 H locs hq hw => ?_)
        obtain ⟨N10, q53_0, rfl, rfl⟩ := hq
        have hw : lo_Wd X ([oX8 (d 0) (N10 0) (d 1) (d 2) (N10 3) (d 3) (N10 5) (d 4) (d 5) (d 6) (N10 9) (d 7) (N10 11) (N10 12) (N10 13) (N10 14) (N10 15) (N10 16) (N10 17) (N10 18) (N10 19) (N10 20) (N10 21) (N10 22) (N10 23) (N10 24) (N10 25) (N10 26) (N10 27) (N10 28), arI X (d 1) 122 (wRed w i a y), arA X (d 2) 8 (rq r (rmQ q (M 3)))] ++ ((rwW X r (rmC C q (M 3) w)))) A9 s9.heap H locs := hw
        refine W.eq (g2 := F0 m9 56 ls []) rfl ?_
        refine lv_aload_n Ex Eb dX8_payExtra_56 rfl (lv_at hl 0 rfl) ?_
        refine lv_iload_n Ex Eb dX8_payExtra_57 rfl (lv_at hl 1 rfl) ?_
        refine lv_iconst (v := iI 1) Ex Eb dX8_payExtra_58 rfl ?_
        refine lo_callV (q0 := 0) (rest := []) E hK hw (kX8_of l X d N10 (wRed w i a y) i 1 (by omega) (by omega)) (cwV 2 E.2.2.2.2 gX8_payExtra_X8_of rfl rfl rfl (by decide +kernel) ⟨Nat.le_of_ble_eq_true rfl, Nat.le_of_ble_eq_true rfl⟩) rfl rfl [0, 1] rfl (by decide) hl.1 rfl rfl (Nat.le_of_ble_eq_true rfl) dX8_payExtra_59 ⟨Nat.le_of_ble_eq_true rfl, Nat.le_of_ble_eq_true rfl⟩ (fun v w1 H locs hq hw => ?_)
        obtain ⟨rfl, rfl⟩ := hq
        have hw : lo_Wd X ([oX8 (d 0) (N10 0) (d 1) (d 2) (N10 3) (d 3) (N10 5) (d 4) (d 5) (d 6) (N10 9) (d 7) (N10 11) (N10 12) (N10 13) (N10 14) (N10 15) (N10 16) (N10 17) (N10 18) (N10 19) (N10 20) (N10 21) (N10 22) (N10 23) (N10 24) (N10 25) (N10 26) (N10 27) (N10 28), arI X (d 1) 122 (wRed w i a y), arA X (d 2) 8 (rq r (rmQ q (M 3)))] ++ ((rwW X r (rmC C q (M 3) w)))) A9 s9.heap H locs := hw
        refine W.eq (g2 := F0 m9 62 ls [.int (iI (wOf (wRed w i a y) i 1))]) rfl ?_
        exact lo_iret E hRt hLk hK hAe hw dX8_payExtra_62 rfl ⟨N10, wRed w i a y, rmQ q (M 3), rmC C q (M 3) w, wOf (wRed w i a y) i 1, (fun k h0 h3 hk h8 => by first | (simp [uI, h0, h3, q53_0 k hk]; done) | (simp [uI, h0, h3]; done)), (by first | (exfalso; omega) | (exact Or.inl ⟨(by first | (simp [uI, q53_0 0 (by omega)] <;> omega) | (omega)), by omega, rfl, rfl, (by first | (simp [uI, q53_0 3 (by omega)] <;> omega) | (omega)), rfl, rfl⟩) | (exact Or.inr (Or.inl ⟨(by first | (simp [uI] <;> omega) | (omega)), by omega, rfl, rfl, (by first | (simp [uI] <;> omega) | (omega)), rfl, rfl⟩)) | (exact Or.inr (Or.inr (Or.inl ⟨(by first | (simp [uI] <;> omega) | (omega)), by omega, rfl, rfl, (by first | (simp [uI] <;> omega) | (omega)), rfl, rfl⟩))) | (exact Or.inr (Or.inr (Or.inr (⟨(by first | (simp [uI] <;> omega) | (omega)), by omega, rfl, rfl, (by first | (simp [uI] <;> omega) | (omega)), rfl, rfl⟩))))), rfl, rfl⟩
      · skip
        refine lv_iconst (v := iI 0) Ex Eb dX8_payExtra_39 rfl ?_
        exact lo_iret E hRt hLk hK hAe hw dX8_payExtra_40 rfl ⟨uI M 0 t8, w, q, C, 0, (fun k h0 h3 hk h8 => by first | (simp [uI, h0, h3, q53_0 k hk]; done) | (simp [uI, h0, h3]; done)), (by first | (exfalso; omega) | (exact Or.inl ⟨(by first | (simp [uI, q53_0 0 (by omega)] <;> omega) | (omega)), by omega, rfl, rfl, (by first | (simp [uI, q53_0 3 (by omega)] <;> omega) | (omega)), rfl, rfl⟩) | (exact Or.inr (Or.inl ⟨(by first | (simp [uI] <;> omega) | (omega)), by omega, rfl, rfl, (by first | (simp [uI] <;> omega) | (omega)), rfl, rfl⟩)) | (exact Or.inr (Or.inr (Or.inl ⟨(by first | (simp [uI] <;> omega) | (omega)), by omega, rfl, rfl, (by first | (simp [uI] <;> omega) | (omega)), rfl, rfl⟩))) | (exact Or.inr (Or.inr (Or.inr (⟨(by first | (simp [uI] <;> omega) | (omega)), by omega, rfl, rfl, (by first | (simp [uI] <;> omega) | (omega)), rfl, rfl⟩))))), rfl, rfl⟩
set_option maxHeartbeats 4000000 in
set_option maxRecDepth 100000 in
theorem kX8_changeRate (l : Launch) (X : KX) (kS : Nat → Nat) (d r q : Nat → Nat) (M : Nat → Int) (C : Nat → Nat → Int) (w : Nat → Int) (i : Int) (a : Int) (hpc : 0 ≤ M 3 ∧ M 3 ≤ 8) (hq : ∀ j, j < 8 → q j < 8) (hWI : WI w) (hi9 : i32 i) (ha9 : i32 a) : CE l X kS yX8_changeRate wsX8_changeRate ({ frames := 6, cells := 0, slots := 0, locals := 150 }) [.ref (d 0), .int (iI i), .int (iI a)] ([oX8 (d 0) (M 0) (d 1) (d 2) (M 3) (d 3) (M 5) (d 4) (d 5) (d 6) (M 9) (d 7) (M 11) (M 12) (M 13) (M 14) (M 15) (M 16) (M 17) (M 18) (M 19) (M 20) (M 21) (M 22) (M 23) (M 24) (M 25) (M 26) (M 27) (M 28), arI X (d 1) 122 w, arA X (d 2) 8 (rq r q)] ++ ((rwW X r C))) (fun v9 w9 => ∃ N : Nat → Int, ∃ u : Nat → Int, ∃ p : Nat → Nat, ∃ K : Nat → Nat → Int, ∃ z : Int, (sameQ M N) ∧ ((N 0 = 0 ∧ ((0 ≤ i ∧ i < w 0) ∧ (0 ≤ a ∧ a ≤ 3000) ∧ 0 < wOf w i 1) ∧ u = wRate w i a ∧ z = wOf (wRate w i a) i 4 ∧ N 3 = min (M 3 + 1) 8 ∧ p = rmQ q (M 3) ∧ K = rmC C q (M 3) w) ∨ (N 0 = 1 ∧ (¬ (0 ≤ i ∧ i < w 0)) ∧ u = w ∧ z = 0 ∧ N 3 = M 3 ∧ p = q ∧ K = C) ∨ (N 0 = 2 ∧ ((0 ≤ i ∧ i < w 0) ∧ ¬ (0 ≤ a ∧ a ≤ 3000)) ∧ u = w ∧ z = 0 ∧ N 3 = M 3 ∧ p = q ∧ K = C) ∨ (N 0 = 3 ∧ ((0 ≤ i ∧ i < w 0) ∧ (0 ≤ a ∧ a ≤ 3000) ∧ wOf w i 1 ≤ 0) ∧ u = w ∧ z = 0 ∧ N 3 = M 3 ∧ p = q ∧ K = C)) ∧ v9 = some (.int (iI z)) ∧ w9 = [oX8 (d 0) (N 0) (d 1) (d 2) (N 3) (d 3) (N 5) (d 4) (d 5) (d 6) (N 9) (d 7) (N 11) (N 12) (N 13) (N 14) (N 15) (N 16) (N 17) (N 18) (N 19) (N 20) (N 21) (N 22) (N 23) (N 24) (N 25) (N 26) (N 27) (N 28), arI X (d 1) 122 u, arA X (d 2) 8 (rq r p)] ++ ((rwW X r K))) 0 0 := by
  refine lo_enterE (cc := cX8_changeRate) (maxL := 3) (ret := (some .int)) (lv := [(0, .ref (d 0)), (1, .int (iI i)), (2, .int (iI a))]) (by decide) rfl rfl (Nat.le_of_ble_eq_true rfl) ?_
  intro p9 e9 s9 m9 bl9 me9 c9 A9 ls hAe E hRt hLk hK hl hw hV
  have Ex := E.1
  have Eb := E.2.1
  have huRX8 : ∀ w ∈ u_ws RX8 TX8 29, w ∈ wsX8_changeRate := by decide +kernel
  have hf56 : (Cond.fieldLink RX8 56 "LoanScheduleModel" "thrown" "I").before _ s9 = true := E.2.2.2.2 _ (List.mem_of_getElem? (i := 1) rfl)
  have hf9 : (Cond.fieldLink RX8 9 "LoanScheduleModel" "w" "[I").before _ s9 = true := E.2.2.2.2 _ (List.mem_of_getElem? (i := 2) rfl)
  obtain ⟨⟨hn0, hn1⟩, ⟨hb0, hb1⟩, hL⟩ := id hWI
  refine lv_aload_n Ex Eb dX8_changeRate_0 rfl (lv_at hl 0 rfl) ?_
  refine lv_iconst (v := iI 0) Ex Eb dX8_changeRate_1 rfl ?_
  refine lo_put E hK hw huRX8 tyX8 tyX8_ok nmX8 0 hf56 rfl 0 rfl rfl (by decide) rfl rfl rfl rfl (Nat.le_of_ble_eq_true rfl) (ws' := [oX8 (d 0) 0 (d 1) (d 2) (M 3) (d 3) (M 5) (d 4) (d 5) (d 6) (M 9) (d 7) (M 11) (M 12) (M 13) (M 14) (M 15) (M 16) (M 17) (M 18) (M 19) (M 20) (M 21) (M 22) (M 23) (M 24) (M 25) (M 26) (M 27) (M 28), arI X (d 1) 122 w, arA X (d 2) 8 (rq r q)] ++ ((rwW X r C))) rfl dX8_changeRate_2 (fun H locs hw => ?_)
  refine lv_aload_n Ex Eb dX8_changeRate_5 rfl (lv_at hl 0 rfl) ?_
  refine lv_iload_n Ex Eb dX8_changeRate_6 rfl (lv_at hl 1 rfl) ?_
  refine lo_callV (q0 := 0) (rest := []) E hK hw (kX8_noLoan l X d (uI M 0 0) w i (by omega) (by omega)) (cwV 1 E.2.2.2.2 gX8_changeRate_X8_noLoan rfl rfl rfl (by decide +kernel) ⟨Nat.le_of_ble_eq_true rfl, Nat.le_of_ble_eq_true rfl⟩) rfl rfl [0, 1] rfl (by decide) hl.1 rfl rfl (Nat.le_of_ble_eq_true rfl) dX8_changeRate_7 ⟨Nat.le_of_ble_eq_true rfl, Nat.le_of_ble_eq_true rfl⟩ (fun v w1 H locs hq hw => ?_)
  obtain ⟨z1, t2, q7_0, rfl, rfl⟩ := hq
  change (z1 = 0 ∧ t2 = 0 ∧ 0 ≤ i ∧ i < w 0) ∨ (z1 = 1 ∧ t2 = 1 ∧ ¬ (0 ≤ i ∧ i < w 0)) at q7_0
  have hw : lo_Wd X ([oX8 (d 0) t2 (d 1) (d 2) (M 3) (d 3) (M 5) (d 4) (d 5) (d 6) (M 9) (d 7) (M 11) (M 12) (M 13) (M 14) (M 15) (M 16) (M 17) (M 18) (M 19) (M 20) (M 21) (M 22) (M 23) (M 24) (M 25) (M 26) (M 27) (M 28), arI X (d 1) 122 w, arA X (d 2) 8 (rq r q)] ++ ((rwW X r C))) A9 s9.heap H locs := hw
  refine W.eq (g2 := F0 m9 10 ls [.int (iI z1)]) rfl ?_
  refine lo_if_ne (tgt := 47) E dX8_changeRate_10 (by decide) (by omega) (fun c3 => ?_) (fun c3 => ?_)
  · skip
    refine lv_iconst (v := iI 0) Ex Eb dX8_changeRate_47 rfl ?_
    exact lo_iret E hRt hLk hK hAe hw dX8_changeRate_48 rfl ⟨uI M 0 t2, w, q, C, 0, (fun k h0 h3 hk h8 => by first | (simp [uI, h0, h3, q60_0 k hk]; done) | (simp [uI, h0, h3]; done)), (by first | (exfalso; omega) | (exact Or.inl ⟨(by first | (simp [uI, q60_0 0 (by omega)] <;> omega) | (omega)), by omega, rfl, rfl, (by first | (simp [uI, q60_0 3 (by omega)] <;> omega) | (omega)), rfl, rfl⟩) | (exact Or.inr (Or.inl ⟨(by first | (simp [uI] <;> omega) | (omega)), by omega, rfl, rfl, (by first | (simp [uI] <;> omega) | (omega)), rfl, rfl⟩)) | (exact Or.inr (Or.inr (Or.inl ⟨(by first | (simp [uI] <;> omega) | (omega)), by omega, rfl, rfl, (by first | (simp [uI] <;> omega) | (omega)), rfl, rfl⟩))) | (exact Or.inr (Or.inr (Or.inr (⟨(by first | (simp [uI] <;> omega) | (omega)), by omega, rfl, rfl, (by first | (simp [uI] <;> omega) | (omega)), rfl, rfl⟩))))), rfl, rfl⟩
  · skip
    refine lv_aload_n Ex Eb dX8_changeRate_13 rfl (lv_at hl 0 rfl) ?_
    refine lv_iload_n Ex Eb dX8_changeRate_14 rfl (lv_at hl 2 rfl) ?_
    refine lv_iconst (v := iI 0) Ex Eb dX8_changeRate_15 rfl ?_
    refine lv_sipush (v := iI 3000) Ex Eb dX8_changeRate_16 rfl ?_
    refine lv_iconst (v := iI 2) Ex Eb dX8_changeRate_19 rfl ?_
    refine lo_callV (q0 := 0) (rest := []) E hK hw (kX8_outside l X d (uI M 0 t2) a 0 3000 2 (by omega) (by omega) (by omega)) (cwV 4 E.2.2.2.2 gX8_changeRate_X8_outside rfl rfl rfl (by decide +kernel) ⟨Nat.le_of_ble_eq_true rfl, Nat.le_of_ble_eq_true rfl⟩) rfl rfl [0] rfl (by decide) hl.1 rfl rfl (Nat.le_of_ble_eq_true rfl) dX8_changeRate_20 ⟨Nat.le_of_ble_eq_true rfl, Nat.le_of_ble_eq_true rfl⟩ (fun v w1 H locs hq hw => ?_)
    obtain ⟨z4, t5, q20_0, rfl, rfl⟩ := hq
    change (z4 = 0 ∧ t5 = t2 ∧ 0 ≤ a ∧ a ≤ 3000) ∨ (z4 = 1 ∧ t5 = 2 ∧ ¬ (0 ≤ a ∧ a ≤ 3000)) at q20_0
    have hw : lo_Wd X ([oX8 (d 0) t5 (d 1) (d 2) (M 3) (d 3) (M 5) (d 4) (d 5) (d 6) (M 9) (d 7) (M 11) (M 12) (M 13) (M 14) (M 15) (M 16) (M 17) (M 18) (M 19) (M 20) (M 21) (M 22) (M 23) (M 24) (M 25) (M 26) (M 27) (M 28), arI X (d 1) 122 w, arA X (d 2) 8 (rq r q)] ++ ((rwW X r C))) A9 s9.heap H locs := hw
    refine W.eq (g2 := F0 m9 23 ls [.int (iI z4)]) rfl ?_
    refine lo_if_ne (tgt := 47) E dX8_changeRate_23 (by decide) (by omega) (fun c6 => ?_) (fun c6 => ?_)
    · skip
      refine lv_iconst (v := iI 0) Ex Eb dX8_changeRate_47 rfl ?_
      exact lo_iret E hRt hLk hK hAe hw dX8_changeRate_48 rfl ⟨uI M 0 t5, w, q, C, 0, (fun k h0 h3 hk h8 => by first | (simp [uI, h0, h3, q60_0 k hk]; done) | (simp [uI, h0, h3]; done)), (by first | (exfalso; omega) | (exact Or.inl ⟨(by first | (simp [uI, q60_0 0 (by omega)] <;> omega) | (omega)), by omega, rfl, rfl, (by first | (simp [uI, q60_0 3 (by omega)] <;> omega) | (omega)), rfl, rfl⟩) | (exact Or.inr (Or.inl ⟨(by first | (simp [uI] <;> omega) | (omega)), by omega, rfl, rfl, (by first | (simp [uI] <;> omega) | (omega)), rfl, rfl⟩)) | (exact Or.inr (Or.inr (Or.inl ⟨(by first | (simp [uI] <;> omega) | (omega)), by omega, rfl, rfl, (by first | (simp [uI] <;> omega) | (omega)), rfl, rfl⟩))) | (exact Or.inr (Or.inr (Or.inr (⟨(by first | (simp [uI] <;> omega) | (omega)), by omega, rfl, rfl, (by first | (simp [uI] <;> omega) | (omega)), rfl, rfl⟩))))), rfl, rfl⟩
    · skip
      have hLi := hL i (by omega) (by omega)
      have hb9 : 0 ≤ wOf w i 1 ∧ wOf w i 1 ≤ 9999999 := hLi.1
      have hm9 : 0 ≤ wOf w i 3 ∧ wOf w i 3 ≤ 120 := hLi.2.2.2.1
      refine lv_aload_n Ex Eb dX8_changeRate_26 rfl (lv_at hl 0 rfl) ?_
      refine lv_aload_n Ex Eb dX8_changeRate_27 rfl (lv_at hl 0 rfl) ?_
      refine lv_iload_n Ex Eb dX8_changeRate_28 rfl (lv_at hl 1 rfl) ?_
      refine lo_callV (q0 := 0) (rest := [.ref (d 0)]) E hK hw (kX8_isRunning l X d (uI M 0 t5) w i (by omega) (by omega)) (cwV 1 E.2.2.2.2 gX8_changeRate_X8_isRunning rfl rfl rfl (by decide +kernel) ⟨Nat.le_of_ble_eq_true rfl, Nat.le_of_ble_eq_true rfl⟩) rfl rfl [0, 1] rfl (by decide) hl.1 rfl rfl (Nat.le_of_ble_eq_true rfl) dX8_changeRate_29 ⟨Nat.le_of_ble_eq_true rfl, Nat.le_of_ble_eq_true rfl⟩ (fun v w1 H locs hq hw => ?_)
      obtain ⟨r7, q29_0, rfl, rfl⟩ := hq
      have hw : lo_Wd X ([oX8 (d 0) t5 (d 1) (d 2) (M 3) (d 3) (M 5) (d 4) (d 5) (d 6) (M 9) (d 7) (M 11) (M 12) (M 13) (M 14) (M 15) (M 16) (M 17) (M 18) (M 19) (M 20) (M 21) (M 22) (M 23) (M 24) (M 25) (M 26) (M 27) (M 28), arI X (d 1) 122 w, arA X (d 2) 8 (rq r q)] ++ ((rwW X r C))) A9 s9.heap H locs := hw
      refine W.eq (g2 := F0 m9 32 ls [.int (iI r7), .ref (d 0)]) rfl ?_
      refine lo_if_ne (tgt := 39) E dX8_changeRate_32 (by decide) (by omega) (fun c8 => ?_) (fun c8 => ?_)
      · skip
        refine lv_iconst (v := iI 0) Ex Eb dX8_changeRate_39 rfl ?_
        refine lv_iconst (v := iI 3) Ex Eb dX8_changeRate_40 rfl ?_
        refine lo_callV (q0 := 0) (rest := []) E hK hw (kX8_raise l X d (uI M 0 t5) 0 3 (by omega)) (cwV 2 E.2.2.2.2 gX8_changeRate_X8_raise rfl rfl rfl (by decide +kernel) ⟨Nat.le_of_ble_eq_true rfl, Nat.le_of_ble_eq_true rfl⟩) rfl rfl [0] rfl (by decide) hl.1 rfl rfl (Nat.le_of_ble_eq_true rfl) dX8_changeRate_41 ⟨Nat.le_of_ble_eq_true rfl, Nat.le_of_ble_eq_true rfl⟩ (fun v w1 H locs hq hw => ?_)
        obtain ⟨t9, q41_0, rfl, rfl⟩ := hq
        change (0 = 0 ∧ t9 = t5) ∨ (0 = 1 ∧ t9 = 3) at q41_0
        have hw : lo_Wd X ([oX8 (d 0) t9 (d 1) (d 2) (M 3) (d 3) (M 5) (d 4) (d 5) (d 6) (M 9) (d 7) (M 11) (M 12) (M 13) (M 14) (M 15) (M 16) (M 17) (M 18) (M 19) (M 20) (M 21) (M 22) (M 23) (M 24) (M 25) (M 26) (M 27) (M 28), arI X (d 1) 122 w, arA X (d 2) 8 (rq r q)] ++ ((rwW X r C))) A9 s9.heap H locs := hw
        refine W.eq (g2 := F0 m9 44 ls [.int (iI 0)]) rfl ?_
        refine lo_if_eq (tgt := 49) E dX8_changeRate_44 (by decide) (by omega) (fun c10 => ?_) (fun c10 => ?_)
        · skip
          refine lv_aload_n Ex Eb dX8_changeRate_49 rfl (lv_at hl 0 rfl) ?_
          refine lv_aload_n Ex Eb dX8_changeRate_50 rfl (lv_at hl 0 rfl) ?_
          refine lo_get E hK hw huRX8 1 hf9 rfl 0 rfl rfl (by decide) (v := .ref (d 1)) rfl dX8_changeRate_51 ?_
          refine lo_callVE (q0 := 0) (rest := []) E hK hw hV (kX8_remember l X kS d r q (uI M 0 t9) C (d 1) w (show 0 ≤ (M 3) ∧ (M 3) ≤ 8 by omega) (by omega)) (cwV 1 E.2.2.2.2 gX8_changeRate_X8_remember rfl rfl rfl (by decide +kernel) ⟨Nat.le_of_ble_eq_true rfl, Nat.le_of_ble_eq_true rfl⟩) rfl rfl [0, 1, 2, 3, 4, 5, 6, 7, 8, 9, 10] rfl (by decide) hl.1 rfl rfl (Nat.le_of_ble_eq_true rfl) dX8_changeRate_54 ⟨Nat.le_of_ble_eq_true rfl, Nat.le_of_ble_eq_true rfl⟩ (fun v w1 H locs hq hw => ?_)
          obtain ⟨rfl, rfl⟩ := hq
          have hw : lo_Wd X ([oX8 (d 0) t9 (d 1) (d 2) (min ((M 3) + 1) 8) (d 3) (M 5) (d 4) (d 5) (d 6) (M 9) (d 7) (M 11) (M 12) (M 13) (M 14) (M 15) (M 16) (M 17) (M 18) (M 19) (M 20) (M 21) (M 22) (M 23) (M 24) (M 25) (M 26) (M 27) (M 28), arI X (d 1) 122 w, arA X (d 2) 8 (rq r (rmQ q (M 3)))] ++ ((rwW X r (rmC C q (M 3) w)))) A9 s9.heap H locs := hw
          refine W.eq (g2 := F0 m9 57 ls []) rfl ?_
          refine lv_aload_n Ex Eb dX8_changeRate_57 rfl (lv_at hl 0 rfl) ?_
          refine lv_iload_n Ex Eb dX8_changeRate_58 rfl (lv_at hl 1 rfl) ?_
          refine lv_iload_n Ex Eb dX8_changeRate_59 rfl (lv_at hl 2 rfl) ?_
          refine lo_callV (q0 := 0) (rest := []) E hK hw (kX8_setRate l X d (uI (uI M 0 t9) 3 (min ((M 3) + 1) 8)) w i a (by omega) (hLi) (by omega) (by omega)) (cwV 2 E.2.2.2.2 gX8_changeRate_X8_setRate rfl rfl rfl (by decide +kernel) ⟨Nat.le_of_ble_eq_true rfl, Nat.le_of_ble_eq_true rfl⟩) rfl rfl [0, 1] rfl (by decide) hl.1 rfl rfl (Nat.le_of_ble_eq_true rfl) dX8_changeRate_60 ⟨Nat.le_of_ble_eq_true rfl, Nat.le_of_ble_eq_true rfl⟩ (fun v w1 H locs hq hw => ?_)
          obtain ⟨N11, q60_0, rfl, rfl⟩ := hq
          have hw : lo_Wd X ([oX8 (d 0) (N11 0) (d 1) (d 2) (N11 3) (d 3) (N11 5) (d 4) (d 5) (d 6) (N11 9) (d 7) (N11 11) (N11 12) (N11 13) (N11 14) (N11 15) (N11 16) (N11 17) (N11 18) (N11 19) (N11 20) (N11 21) (N11 22) (N11 23) (N11 24) (N11 25) (N11 26) (N11 27) (N11 28), arI X (d 1) 122 (wRate w i a), arA X (d 2) 8 (rq r (rmQ q (M 3)))] ++ ((rwW X r (rmC C q (M 3) w)))) A9 s9.heap H locs := hw
          refine W.eq (g2 := F0 m9 63 ls []) rfl ?_
          refine lv_aload_n Ex Eb dX8_changeRate_63 rfl (lv_at hl 0 rfl) ?_
          refine lv_iload_n Ex Eb dX8_changeRate_64 rfl (lv_at hl 1 rfl) ?_
          refine lv_iconst (v := iI 4) Ex Eb dX8_changeRate_65 rfl ?_
          refine lo_callV (q0 := 0) (rest := []) E hK hw (kX8_of l X d N11 (wRate w i a) i 4 (by omega) (by omega)) (cwV 2 E.2.2.2.2 gX8_changeRate_X8_of rfl rfl rfl (by decide +kernel) ⟨Nat.le_of_ble_eq_true rfl, Nat.le_of_ble_eq_true rfl⟩) rfl rfl [0, 1] rfl (by decide) hl.1 rfl rfl (Nat.le_of_ble_eq_true rfl) dX8_changeRate_66 ⟨Nat.le_of_ble_eq_true rfl, Nat.le_of_ble_eq_true rfl⟩ (fun v w1 H locs hq hw => ?_)
          obtain ⟨rfl, rfl⟩ := hq
          have hw : lo_Wd X ([oX8 (d 0) (N11 0) (d 1) (d 2) (N11 3) (d 3) (N11 5) (d 4) (d 5) (d 6) (N11 9) (d 7) (N11 11) (N11 12) (N11 13) (N11 14) (N11 15) (N11 16) (N11 17) (N11 18) (N11 19) (N11 20) (N11 21) (N11 22) (N11 23) (N11 24) (N11 25) (N11 26) (N11 27) (N11 28), arI X (d 1) 122 (wRate w i a), arA X (d 2) 8 (rq r (rmQ q (M 3)))] ++ ((rwW X r (rmC C q (M 3) w)))) A9 s9.heap H locs := hw
          refine W.eq (g2 := F0 m9 69 ls [.int (iI (wOf (wRate w i a) i 4))]) rfl ?_
          exact lo_iret E hRt hLk hK hAe hw dX8_changeRate_69 rfl ⟨N11, wRate w i a, rmQ q (M 3), rmC C q (M 3) w, wOf (wRate w i a) i 4, (fun k h0 h3 hk h8 => by first | (simp [uI, h0, h3, q60_0 k hk]; done) | (simp [uI, h0, h3]; done)), (by first | (exfalso; omega) | (exact Or.inl ⟨(by first | (simp [uI, q60_0 0 (by omega)] <;> omega) | (omega)), by omega, rfl, rfl, (by first | (simp [uI, q60_0 3 (by omega)] <;> omega) | (omega)), rfl, rfl⟩) | (exact Or.inr (Or.inl ⟨(by first | (simp [uI] <;> omega) | (omega)), by omega, rfl, rfl, (by first | (simp [uI] <;> omega) | (omega)), rfl, rfl⟩)) | (exact Or.inr (Or.inr (Or.inl ⟨(by first | (simp [uI] <;> omega) | (omega)), by omega, rfl, rfl, (by first | (simp [uI] <;> omega) | (omega)), rfl, rfl⟩))) | (exact Or.inr (Or.inr (Or.inr (⟨(by first | (simp [uI] <;> omega) | (omega)), by omega, rfl, rfl, (by first | (simp [uI] <;> omega) | (omega)), rfl, rfl⟩))))), rfl, rfl⟩
        · skip
          refine lv_iconst (v := iI 0) Ex Eb dX8_changeRate_47 rfl ?_
          exact lo_iret E hRt hLk hK hAe hw dX8_changeRate_48 rfl ⟨uI M 0 t9, w, q, C, 0, (fun k h0 h3 hk h8 => by first | (simp [uI, h0, h3, q60_0 k hk]; done) | (simp [uI, h0, h3]; done)), (by first | (exfalso; omega) | (exact Or.inl ⟨(by first | (simp [uI, q60_0 0 (by omega)] <;> omega) | (omega)), by omega, rfl, rfl, (by first | (simp [uI, q60_0 3 (by omega)] <;> omega) | (omega)), rfl, rfl⟩) | (exact Or.inr (Or.inl ⟨(by first | (simp [uI] <;> omega) | (omega)), by omega, rfl, rfl, (by first | (simp [uI] <;> omega) | (omega)), rfl, rfl⟩)) | (exact Or.inr (Or.inr (Or.inl ⟨(by first | (simp [uI] <;> omega) | (omega)), by omega, rfl, rfl, (by first | (simp [uI] <;> omega) | (omega)), rfl, rfl⟩))) | (exact Or.inr (Or.inr (Or.inr (⟨(by first | (simp [uI] <;> omega) | (omega)), by omega, rfl, rfl, (by first | (simp [uI] <;> omega) | (omega)), rfl, rfl⟩))))), rfl, rfl⟩
      · skip
        refine lv_iconst (v := iI 1) Ex Eb dX8_changeRate_35 rfl ?_
        refine lv_goto (tgt := 40) Ex Eb dX8_changeRate_36 (by decide) ?_
        refine lv_iconst (v := iI 3) Ex Eb dX8_changeRate_40 rfl ?_
        refine lo_callV (q0 := 0) (rest := []) E hK hw (kX8_raise l X d (uI M 0 t5) 1 3 (by omega)) (cwV 2 E.2.2.2.2 gX8_changeRate_X8_raise rfl rfl rfl (by decide +kernel) ⟨Nat.le_of_ble_eq_true rfl, Nat.le_of_ble_eq_true rfl⟩) rfl rfl [0] rfl (by decide) hl.1 rfl rfl (Nat.le_of_ble_eq_true rfl) dX8_changeRate_41 ⟨Nat.le_of_ble_eq_true rfl, Nat.le_of_ble_eq_true rfl⟩ (fun v w1 H locs hq hw => ?_)
        obtain ⟨t12, q41_0, rfl, rfl⟩ := hq
        change (1 = 0 ∧ t12 = t5) ∨ (1 = 1 ∧ t12 = 3) at q41_0
        have hw : lo_Wd X ([oX8 (d 0) t12 (d 1) (d 2) (M 3) (d 3) (M 5) (d 4) (d 5) (d 6) (M 9) (d 7) (M 11) (M 12) (M 13) (M 14) (M 15) (M 16) (M 17) (M 18) (M 19) (M 20) (M 21) (M 22) (M 23) (M 24) (M 25) (M 26) (M 27) (M 28), arI X (d 1) 122 w, arA X (d 2) 8 (rq r q)] ++ ((rwW X r C))) A9 s9.heap H locs := hw
        refine W.eq (g2 := F0 m9 44 ls [.int (iI 1)]) rfl ?_
        refine lo_if_eq (tgt := 49) E dX8_changeRate_44 (by decide) (by omega) (fun c13 => ?_) (fun c13 => ?_)
        · skip
          refine lv_aload_n Ex Eb dX8_changeRate_49 rfl (lv_at hl 0 rfl) ?_
          refine lv_aload_n Ex Eb dX8_changeRate_50 rfl (lv_at hl 0 rfl) ?_
          refine lo_get E hK hw huRX8 1 hf9 rfl 0 rfl rfl (by decide) (v := .ref (d 1)) rfl dX8_changeRate_51 ?_
          refine lo_callVE (q0 := 0) (rest := []) E hK hw hV (kX8_remember l X kS d r q (uI M 0 t12) C (d 1) w (show 0 ≤ (M 3) ∧ (M 3) ≤ 8 by omega) (by omega)) (cwV 1 E.2.2.2.2 gX8_changeRate_X8_remember rfl rfl rfl (by decide +kernel) ⟨Nat.le_of_ble_eq_true rfl, Nat.le_of_ble_eq_true rfl⟩) rfl rfl [0, 1, 2, 3, 4, 5, 6, 7, 8, 9, 10] rfl (by decide) hl.1 rfl rfl (Nat.le_of_ble_eq_true rfl) dX8_changeRate_54 ⟨Nat.le_of_ble_eq_true rfl, Nat.le_of_ble_eq_true rfl⟩ (fun v w1 H locs hq hw => ?_)
          obtain ⟨rfl, rfl⟩ := hq
          have hw : lo_Wd X ([oX8 (d 0) t12 (d 1) (d 2) (min ((M 3) + 1) 8) (d 3) (M 5) (d 4) (d 5) (d 6) (M 9) (d 7) (M 11) (M 12) (M 13) (M 14) (M 15) (M 16) (M 17) (M 18) (M 19) (M 20) (M 21) (M 22) (M 23) (M 24) (M 25) (M 26) (M 27) (M 28), arI X (d 1) 122 w, arA X (d 2) 8 (rq r (rmQ q (M 3)))] ++ ((rwW X r (rmC C q (M 3) w)))) A9 s9.heap H locs := hw
          refine W.eq (g2 := F0 m9 57 ls []) rfl ?_
          refine lv_aload_n Ex Eb dX8_changeRate_57 rfl (lv_at hl 0 rfl) ?_
          refine lv_iload_n Ex Eb dX8_changeRate_58 rfl (lv_at hl 1 rfl) ?_
          refine lv_iload_n Ex Eb dX8_changeRate_59 rfl (lv_at hl 2 rfl) ?_
          refine lo_callV (q0 := 0) (rest := []) E hK hw (kX8_setRate l X d (uI (uI M 0 t12) 3 (min ((M 3) + 1) 8)) w i a (by omega) (hLi) (by omega) (by omega)) (cwV 2 E.2.2.2.2 gX8_changeRate_X8_setRate rfl rfl rfl (by decide +kernel) ⟨Nat.le_of_ble_eq_true rfl, Nat.le_of_ble_eq_true rfl⟩) rfl rfl [0, 1] rfl (by decide) hl.1 rfl rfl (Nat.le_of_ble_eq_true rfl) dX8_changeRate_60 ⟨Nat.le_of_ble_eq_true rfl, Nat.le_of_ble_eq_true rfl⟩ (fun v w1 H locs hq hw => ?_)
          obtain ⟨N14, q60_0, rfl, rfl⟩ := hq
          have hw : lo_Wd X ([oX8 (d 0) (N14 0) (d 1) (d 2) (N14 3) (d 3) (N14 5) (d 4) (d 5) (d 6) (N14 9) (d 7) (N14 11) (N14 12) (N14 13) (N14 14) (N14 15) (N14 16) (N14 17) (N14 18) (N14 19) (N14 20) (N14 21) (N14 22) (N14 23) (N14 24) (N14 25) (N14 26) (N14 27) (N14 28), arI X (d 1) 122 (wRate w i a), arA X (d 2) 8 (rq r (rmQ q (M 3)))] ++ ((rwW X r (rmC C q (M 3) w)))) A9 s9.heap H locs := hw
          refine W.eq (g2 := F0 m9 63 ls []) rfl ?_
          refine lv_aload_n Ex Eb dX8_changeRate_63 rfl (lv_at hl 0 rfl) ?_
          refine lv_iload_n Ex Eb dX8_changeRate_64 rfl (lv_at hl 1 rfl) ?_
          refine lv_iconst (v := iI 4) Ex Eb dX8_changeRate_65 rfl ?_
          refine lo_callV (q0 := 0) (rest := []) E hK hw (kX8_of l X d N14 (wRate w i a) i 4 (by omega) (by omega)) (cwV 2 E.2.2.2.2 gX8_changeRate_X8_of rfl rfl rfl (by decide +kernel) ⟨Nat.le_of_ble_eq_true rfl, Nat.le_of_ble_eq_true rfl⟩) rfl rfl [0, 1] rfl (by decide) hl.1 rfl rfl (Nat.le_of_ble_eq_true rfl) dX8_changeRate_66 ⟨Nat.le_of_ble_eq_true rfl, Nat.le_of_ble_eq_true rfl⟩ (fun v w1 H locs hq hw => ?_)
          obtain ⟨rfl, rfl⟩ := hq
          have hw : lo_Wd X ([oX8 (d 0) (N14 0) (d 1) (d 2) (N14 3) (d 3) (N14 5) (d 4) (d 5) (d 6) (N14 9) (d 7) (N14 11) (N14 12) (N14 13) (N14 14) (N14 15) (N14 16) (N14 17) (N14 18) (N14 19) (N14 20) (N14 21) (N14 22) (N14 23) (N14 24) (N14 25) (N14 26) (N14 27) (N14 28), arI X (d 1) 122 (wRate w i a), arA X (d 2) 8 (rq r (rmQ q (M 3)))] ++ ((rwW X r (rmC C q (M 3) w)))) A9 s9.heap H locs := hw
          refine W.eq (g2 := F0 m9 69 ls [.int (iI (wOf (wRate w i a) i 4))]) rfl ?_
          exact lo_iret E hRt hLk hK hAe hw dX8_changeRate_69 rfl ⟨N14, wRate w i a, rmQ q (M 3), rmC C q (M 3) w, wOf (wRate w i a) i 4, (fun k h0 h3 hk h8 => by first | (simp [uI, h0, h3, q60_0 k hk]; done) | (simp [uI, h0, h3]; done)), (by first | (exfalso; omega) | (exact Or.inl ⟨(by first | (simp [uI, q60_0 0 (by omega)] <;> omega) | (omega)), by omega, rfl, rfl, (by first | (simp [uI, q60_0 3 (by omega)] <;> omega) | (omega)), rfl, rfl⟩) | (exact Or.inr (Or.inl ⟨(by first | (simp [uI] <;> omega) | (omega)), by omega, rfl, rfl, (by first | (simp [uI] <;> omega) | (omega)), rfl, rfl⟩)) | (exact Or.inr (Or.inr (Or.inl ⟨(by first | (simp [uI] <;> omega) | (omega)), by omega, rfl, rfl, (by first | (simp [uI] <;> omega) | (omega)), rfl, rfl⟩))) | (exact Or.inr (Or.inr (Or.inr (⟨(by first | (simp [uI] <;> omega) | (omega)), by omega, rfl, rfl, (by first | (simp [uI] <;> omega) | (omega)), rfl, rfl⟩))))), rfl, rfl⟩
        · skip
          refine lv_iconst (v := iI 0) Ex Eb dX8_changeRate_47 rfl ?_
          exact lo_iret E hRt hLk hK hAe hw dX8_changeRate_48 rfl ⟨uI M 0 t12, w, q, C, 0, (fun k h0 h3 hk h8 => by first | (simp [uI, h0, h3, q60_0 k hk]; done) | (simp [uI, h0, h3]; done)), (by first | (exfalso; omega) | (exact Or.inl ⟨(by first | (simp [uI, q60_0 0 (by omega)] <;> omega) | (omega)), by omega, rfl, rfl, (by first | (simp [uI, q60_0 3 (by omega)] <;> omega) | (omega)), rfl, rfl⟩) | (exact Or.inr (Or.inl ⟨(by first | (simp [uI] <;> omega) | (omega)), by omega, rfl, rfl, (by first | (simp [uI] <;> omega) | (omega)), rfl, rfl⟩)) | (exact Or.inr (Or.inr (Or.inl ⟨(by first | (simp [uI] <;> omega) | (omega)), by omega, rfl, rfl, (by first | (simp [uI] <;> omega) | (omega)), rfl, rfl⟩))) | (exact Or.inr (Or.inr (Or.inr (⟨(by first | (simp [uI] <;> omega) | (omega)), by omega, rfl, rfl, (by first | (simp [uI] <;> omega) | (omega)), rfl, rfl⟩))))), rfl, rfl⟩
set_option maxHeartbeats 4000000 in
set_option maxRecDepth 100000 in
theorem kX8_extendTerm (l : Launch) (X : KX) (kS : Nat → Nat) (d r q : Nat → Nat) (M : Nat → Int) (C : Nat → Nat → Int) (w : Nat → Int) (i : Int) (a : Int) (hpc : 0 ≤ M 3 ∧ M 3 ≤ 8) (hq : ∀ j, j < 8 → q j < 8) (hWI : WI w) (hi9 : i32 i) (ha9 : i32 a) : CE l X kS yX8_extendTerm wsX8_extendTerm ({ frames := 6, cells := 0, slots := 0, locals := 150 }) [.ref (d 0), .int (iI i), .int (iI a)] ([oX8 (d 0) (M 0) (d 1) (d 2) (M 3) (d 3) (M 5) (d 4) (d 5) (d 6) (M 9) (d 7) (M 11) (M 12) (M 13) (M 14) (M 15) (M 16) (M 17) (M 18) (M 19) (M 20) (M 21) (M 22) (M 23) (M 24) (M 25) (M 26) (M 27) (M 28), arI X (d 1) 122 w, arA X (d 2) 8 (rq r q)] ++ ((rwW X r C))) (fun v9 w9 => ∃ N : Nat → Int, ∃ u : Nat → Int, ∃ p : Nat → Nat, ∃ K : Nat → Nat → Int, ∃ z : Int, (sameQ M N) ∧ ((N 0 = 0 ∧ ((0 ≤ i ∧ i < w 0) ∧ (1 ≤ a ∧ a ≤ 60) ∧ 0 < wOf w i 1 ∧ wOf w i 3 + a ≤ 120) ∧ u = wLong w i a ∧ z = wOf (wLong w i a) i 4 ∧ N 3 = min (M 3 + 1) 8 ∧ p = rmQ q (M 3) ∧ K = rmC C q (M 3) w) ∨ (N 0 = 1 ∧ (¬ (0 ≤ i ∧ i < w 0)) ∧ u = w ∧ z = 0 ∧ N 3 = M 3 ∧ p = q ∧ K = C) ∨ (N 0 = 2 ∧ ((0 ≤ i ∧ i < w 0) ∧ ¬ (1 ≤ a ∧ a ≤ 60)) ∧ u = w ∧ z = 0 ∧ N 3 = M 3 ∧ p = q ∧ K = C) ∨ (N 0 = 3 ∧ ((0 ≤ i ∧ i < w 0) ∧ (1 ≤ a ∧ a ≤ 60) ∧ ¬ (0 < wOf w i 1 ∧ wOf w i 3 + a ≤ 120)) ∧ u = w ∧ z = 0 ∧ N 3 = M 3 ∧ p = q ∧ K = C)) ∧ v9 = some (.int (iI z)) ∧ w9 = [oX8 (d 0) (N 0) (d 1) (d 2) (N 3) (d 3) (N 5) (d 4) (d 5) (d 6) (N 9) (d 7) (N 11) (N 12) (N 13) (N 14) (N 15) (N 16) (N 17) (N 18) (N 19) (N 20) (N 21) (N 22) (N 23) (N 24) (N 25) (N 26) (N 27) (N 28), arI X (d 1) 122 u, arA X (d 2) 8 (rq r p)] ++ ((rwW X r K))) 0 0 := by
  refine lo_enterE (cc := cX8_extendTerm) (maxL := 3) (ret := (some .int)) (lv := [(0, .ref (d 0)), (1, .int (iI i)), (2, .int (iI a))]) (by decide) rfl rfl (Nat.le_of_ble_eq_true rfl) ?_
  intro p9 e9 s9 m9 bl9 me9 c9 A9 ls hAe E hRt hLk hK hl hw hV
  have Ex := E.1
  have Eb := E.2.1
  have huRX8 : ∀ w ∈ u_ws RX8 TX8 29, w ∈ wsX8_extendTerm := by decide +kernel
  have hf56 : (Cond.fieldLink RX8 56 "LoanScheduleModel" "thrown" "I").before _ s9 = true := E.2.2.2.2 _ (List.mem_of_getElem? (i := 1) rfl)
  have hf9 : (Cond.fieldLink RX8 9 "LoanScheduleModel" "w" "[I").before _ s9 = true := E.2.2.2.2 _ (List.mem_of_getElem? (i := 2) rfl)
  obtain ⟨⟨hn0, hn1⟩, ⟨hb0, hb1⟩, hL⟩ := id hWI
  refine lv_aload_n Ex Eb dX8_extendTerm_0 rfl (lv_at hl 0 rfl) ?_
  refine lv_iconst (v := iI 0) Ex Eb dX8_extendTerm_1 rfl ?_
  refine lo_put E hK hw huRX8 tyX8 tyX8_ok nmX8 0 hf56 rfl 0 rfl rfl (by decide) rfl rfl rfl rfl (Nat.le_of_ble_eq_true rfl) (ws' := [oX8 (d 0) 0 (d 1) (d 2) (M 3) (d 3) (M 5) (d 4) (d 5) (d 6) (M 9) (d 7) (M 11) (M 12) (M 13) (M 14) (M 15) (M 16) (M 17) (M 18) (M 19) (M 20) (M 21) (M 22) (M 23) (M 24) (M 25) (M 26) (M 27) (M 28), arI X (d 1) 122 w, arA X (d 2) 8 (rq r q)] ++ ((rwW X r C))) rfl dX8_extendTerm_2 (fun H locs hw => ?_)
  refine lv_aload_n Ex Eb dX8_extendTerm_5 rfl (lv_at hl 0 rfl) ?_
  refine lv_iload_n Ex Eb dX8_extendTerm_6 rfl (lv_at hl 1 rfl) ?_
  refine lo_callV (q0 := 0) (rest := []) E hK hw (kX8_noLoan l X d (uI M 0 0) w i (by omega) (by omega)) (cwV 1 E.2.2.2.2 gX8_extendTerm_X8_noLoan rfl rfl rfl (by decide +kernel) ⟨Nat.le_of_ble_eq_true rfl, Nat.le_of_ble_eq_true rfl⟩) rfl rfl [0, 1] rfl (by decide) hl.1 rfl rfl (Nat.le_of_ble_eq_true rfl) dX8_extendTerm_7 ⟨Nat.le_of_ble_eq_true rfl, Nat.le_of_ble_eq_true rfl⟩ (fun v w1 H locs hq hw => ?_)
  obtain ⟨z1, t2, q7_0, rfl, rfl⟩ := hq
  change (z1 = 0 ∧ t2 = 0 ∧ 0 ≤ i ∧ i < w 0) ∨ (z1 = 1 ∧ t2 = 1 ∧ ¬ (0 ≤ i ∧ i < w 0)) at q7_0
  have hw : lo_Wd X ([oX8 (d 0) t2 (d 1) (d 2) (M 3) (d 3) (M 5) (d 4) (d 5) (d 6) (M 9) (d 7) (M 11) (M 12) (M 13) (M 14) (M 15) (M 16) (M 17) (M 18) (M 19) (M 20) (M 21) (M 22) (M 23) (M 24) (M 25) (M 26) (M 27) (M 28), arI X (d 1) 122 w, arA X (d 2) 8 (rq r q)] ++ ((rwW X r C))) A9 s9.heap H locs := hw
  refine W.eq (g2 := F0 m9 10 ls [.int (iI z1)]) rfl ?_
  refine lo_if_ne (tgt := 39) E dX8_extendTerm_10 (by decide) (by omega) (fun c3 => ?_) (fun c3 => ?_)
  · skip
    refine lv_iconst (v := iI 0) Ex Eb dX8_extendTerm_39 rfl ?_
    exact lo_iret E hRt hLk hK hAe hw dX8_extendTerm_40 rfl ⟨uI M 0 t2, w, q, C, 0, (fun k h0 h3 hk h8 => by first | (simp [uI, h0, h3, q52_0 k hk]; done) | (simp [uI, h0, h3]; done)), (by first | (exfalso; omega) | (exact Or.inl ⟨(by first | (simp [uI, q52_0 0 (by omega)] <;> omega) | (omega)), by omega, rfl, rfl, (by first | (simp [uI, q52_0 3 (by omega)] <;> omega) | (omega)), rfl, rfl⟩) | (exact Or.inr (Or.inl ⟨(by first | (simp [uI] <;> omega) | (omega)), by omega, rfl, rfl, (by first | (simp [uI] <;> omega) | (omega)), rfl, rfl⟩)) | (exact Or.inr (Or.inr (Or.inl ⟨(by first | (simp [uI] <;> omega) | (omega)), by omega, rfl, rfl, (by first | (simp [uI] <;> omega) | (omega)), rfl, rfl⟩))) | (exact Or.inr (Or.inr (Or.inr (⟨(by first | (simp [uI] <;> omega) | (omega)), by omega, rfl, rfl, (by first | (simp [uI] <;> omega) | (omega)), rfl, rfl⟩))))), rfl, rfl⟩
  · skip
    refine lv_aload_n Ex Eb dX8_extendTerm_13 rfl (lv_at hl 0 rfl) ?_
    refine lv_iload_n Ex Eb dX8_extendTerm_14 rfl (lv_at hl 2 rfl) ?_
    refine lv_iconst (v := iI 1) Ex Eb dX8_extendTerm_15 rfl ?_
    refine lv_bipush (v := iI 60) Ex Eb dX8_extendTerm_16 rfl ?_
    refine lv_iconst (v := iI 2) Ex Eb dX8_extendTerm_18 rfl ?_
    refine lo_callV (q0 := 0) (rest := []) E hK hw (kX8_outside l X d (uI M 0 t2) a 1 60 2 (by omega) (by omega) (by omega)) (cwV 4 E.2.2.2.2 gX8_extendTerm_X8_outside rfl rfl rfl (by decide +kernel) ⟨Nat.le_of_ble_eq_true rfl, Nat.le_of_ble_eq_true rfl⟩) rfl rfl [0] rfl (by decide) hl.1 rfl rfl (Nat.le_of_ble_eq_true rfl) dX8_extendTerm_19 ⟨Nat.le_of_ble_eq_true rfl, Nat.le_of_ble_eq_true rfl⟩ (fun v w1 H locs hq hw => ?_)
    obtain ⟨z4, t5, q19_0, rfl, rfl⟩ := hq
    change (z4 = 0 ∧ t5 = t2 ∧ 1 ≤ a ∧ a ≤ 60) ∨ (z4 = 1 ∧ t5 = 2 ∧ ¬ (1 ≤ a ∧ a ≤ 60)) at q19_0
    have hw : lo_Wd X ([oX8 (d 0) t5 (d 1) (d 2) (M 3) (d 3) (M 5) (d 4) (d 5) (d 6) (M 9) (d 7) (M 11) (M 12) (M 13) (M 14) (M 15) (M 16) (M 17) (M 18) (M 19) (M 20) (M 21) (M 22) (M 23) (M 24) (M 25) (M 26) (M 27) (M 28), arI X (d 1) 122 w, arA X (d 2) 8 (rq r q)] ++ ((rwW X r C))) A9 s9.heap H locs := hw
    refine W.eq (g2 := F0 m9 22 ls [.int (iI z4)]) rfl ?_
    refine lo_if_ne (tgt := 39) E dX8_extendTerm_22 (by decide) (by omega) (fun c6 => ?_) (fun c6 => ?_)
    · skip
      refine lv_iconst (v := iI 0) Ex Eb dX8_extendTerm_39 rfl ?_
      exact lo_iret E hRt hLk hK hAe hw dX8_extendTerm_40 rfl ⟨uI M 0 t5, w, q, C, 0, (fun k h0 h3 hk h8 => by first | (simp [uI, h0, h3, q52_0 k hk]; done) | (simp [uI, h0, h3]; done)), (by first | (exfalso; omega) | (exact Or.inl ⟨(by first | (simp [uI, q52_0 0 (by omega)] <;> omega) | (omega)), by omega, rfl, rfl, (by first | (simp [uI, q52_0 3 (by omega)] <;> omega) | (omega)), rfl, rfl⟩) | (exact Or.inr (Or.inl ⟨(by first | (simp [uI] <;> omega) | (omega)), by omega, rfl, rfl, (by first | (simp [uI] <;> omega) | (omega)), rfl, rfl⟩)) | (exact Or.inr (Or.inr (Or.inl ⟨(by first | (simp [uI] <;> omega) | (omega)), by omega, rfl, rfl, (by first | (simp [uI] <;> omega) | (omega)), rfl, rfl⟩))) | (exact Or.inr (Or.inr (Or.inr (⟨(by first | (simp [uI] <;> omega) | (omega)), by omega, rfl, rfl, (by first | (simp [uI] <;> omega) | (omega)), rfl, rfl⟩))))), rfl, rfl⟩
    · skip
      have hLi := hL i (by omega) (by omega)
      have hb9 : 0 ≤ wOf w i 1 ∧ wOf w i 1 ≤ 9999999 := hLi.1
      have hm9 : 0 ≤ wOf w i 3 ∧ wOf w i 3 ≤ 120 := hLi.2.2.2.1
      refine lv_aload_n Ex Eb dX8_extendTerm_25 rfl (lv_at hl 0 rfl) ?_
      refine lv_aload_n Ex Eb dX8_extendTerm_26 rfl (lv_at hl 0 rfl) ?_
      refine lv_iload_n Ex Eb dX8_extendTerm_27 rfl (lv_at hl 1 rfl) ?_
      refine lv_iload_n Ex Eb dX8_extendTerm_28 rfl (lv_at hl 2 rfl) ?_
      refine lo_callV (q0 := 0) (rest := [.ref (d 0)]) E hK hw (kX8_cannotExtend l X d (uI M 0 t5) w i a (by omega) (by omega) (by omega)) (cwV 2 E.2.2.2.2 gX8_extendTerm_X8_cannotExtend rfl rfl rfl (by decide +kernel) ⟨Nat.le_of_ble_eq_true rfl, Nat.le_of_ble_eq_true rfl⟩) rfl rfl [0, 1] rfl (by decide) hl.1 rfl rfl (Nat.le_of_ble_eq_true rfl) dX8_extendTerm_29 ⟨Nat.le_of_ble_eq_true rfl, Nat.le_of_ble_eq_true rfl⟩ (fun v w1 H locs hq hw => ?_)
      obtain ⟨z7, q29_0, rfl, rfl⟩ := hq
      have hw : lo_Wd X ([oX8 (d 0) t5 (d 1) (d 2) (M 3) (d 3) (M 5) (d 4) (d 5) (d 6) (M 9) (d 7) (M 11) (M 12) (M 13) (M 14) (M 15) (M 16) (M 17) (M 18) (M 19) (M 20) (M 21) (M 22) (M 23) (M 24) (M 25) (M 26) (M 27) (M 28), arI X (d 1) 122 w, arA X (d 2) 8 (rq r q)] ++ ((rwW X r C))) A9 s9.heap H locs := hw
      refine W.eq (g2 := F0 m9 32 ls [.int (iI z7), .ref (d 0)]) rfl ?_
      refine lv_iconst (v := iI 3) Ex Eb dX8_extendTerm_32 rfl ?_
      refine lo_callV (q0 := 0) (rest := []) E hK hw (kX8_raise l X d (uI M 0 t5) z7 3 (by omega)) (cwV 2 E.2.2.2.2 gX8_extendTerm_X8_raise rfl rfl rfl (by decide +kernel) ⟨Nat.le_of_ble_eq_true rfl, Nat.le_of_ble_eq_true rfl⟩) rfl rfl [0] rfl (by decide) hl.1 rfl rfl (Nat.le_of_ble_eq_true rfl) dX8_extendTerm_33 ⟨Nat.le_of_ble_eq_true rfl, Nat.le_of_ble_eq_true rfl⟩ (fun v w1 H locs hq hw => ?_)
      obtain ⟨t8, q33_0, rfl, rfl⟩ := hq
      change (z7 = 0 ∧ t8 = t5) ∨ (z7 = 1 ∧ t8 = 3) at q33_0
      have hw : lo_Wd X ([oX8 (d 0) t8 (d 1) (d 2) (M 3) (d 3) (M 5) (d 4) (d 5) (d 6) (M 9) (d 7) (M 11) (M 12) (M 13) (M 14) (M 15) (M 16) (M 17) (M 18) (M 19) (M 20) (M 21) (M 22) (M 23) (M 24) (M 25) (M 26) (M 27) (M 28), arI X (d 1) 122 w, arA X (d 2) 8 (rq r q)] ++ ((rwW X r C))) A9 s9.heap H locs := hw
      refine W.eq (g2 := F0 m9 36 ls [.int (iI z7)]) rfl ?_
      refine lo_if_eq (tgt := 41) E dX8_extendTerm_36 (by decide) (by omega) (fun c9 => ?_) (fun c9 => ?_)
      · skip
        refine lv_aload_n Ex Eb dX8_extendTerm_41 rfl (lv_at hl 0 rfl) ?_
        refine lv_aload_n Ex Eb dX8_extendTerm_42 rfl (lv_at hl 0 rfl) ?_
        refine lo_get E hK hw huRX8 1 hf9 rfl 0 rfl rfl (by decide) (v := .ref (d 1)) rfl dX8_extendTerm_43 ?_
        refine lo_callVE (q0 := 0) (rest := []) E hK hw hV (kX8_remember l X kS d r q (uI M 0 t8) C (d 1) w (show 0 ≤ (M 3) ∧ (M 3) ≤ 8 by omega) (by omega)) (cwV 1 E.2.2.2.2 gX8_extendTerm_X8_remember rfl rfl rfl (by decide +kernel) ⟨Nat.le_of_ble_eq_true rfl, Nat.le_of_ble_eq_true rfl⟩) rfl rfl [0, 1, 2, 3, 4, 5, 6, 7, 8, 9, 10] rfl (by decide) hl.1 rfl rfl (Nat.le_of_ble_eq_true rfl) dX8_extendTerm_46 ⟨Nat.le_of_ble_eq_true rfl, Nat.le_of_ble_eq_true rfl⟩ (fun v w1 H locs hq hw => ?_)
        obtain ⟨rfl, rfl⟩ := hq
        have hw : lo_Wd X ([oX8 (d 0) t8 (d 1) (d 2) (min ((M 3) + 1) 8) (d 3) (M 5) (d 4) (d 5) (d 6) (M 9) (d 7) (M 11) (M 12) (M 13) (M 14) (M 15) (M 16) (M 17) (M 18) (M 19) (M 20) (M 21) (M 22) (M 23) (M 24) (M 25) (M 26) (M 27) (M 28), arI X (d 1) 122 w, arA X (d 2) 8 (rq r (rmQ q (M 3)))] ++ ((rwW X r (rmC C q (M 3) w)))) A9 s9.heap H locs := hw
        refine W.eq (g2 := F0 m9 49 ls []) rfl ?_
        refine lv_aload_n Ex Eb dX8_extendTerm_49 rfl (lv_at hl 0 rfl) ?_
        refine lv_iload_n Ex Eb dX8_extendTerm_50 rfl (lv_at hl 1 rfl) ?_
        refine lv_iload_n Ex Eb dX8_extendTerm_51 rfl (lv_at hl 2 rfl) ?_
        refine lo_callV (q0 := 0) (rest := []) E hK hw (kX8_extend l X d (uI (uI M 0 t8) 3 (min ((M 3) + 1) 8)) w i a (by omega) (hLi) (by omega) (by omega)) (cwV 2 E.2.2.2.2 gX8_extendTerm_X8_extend rfl rfl rfl (by decide +kernel) ⟨Nat.le_of_ble_eq_true rfl, Nat.le_of_ble_eq_true rfl⟩) rfl rfl [0, 1] rfl (by decide) hl.1 rfl rfl (Nat.le_of_ble_eq_true rfl) dX8_extendTerm_52 ⟨Nat.le_of_ble_eq_true rfl, Nat.le_of_ble_eq_true rfl⟩ (fun v w1 H locs hq hw => ?_)
        obtain ⟨N10, q52_0, rfl, rfl⟩ := hq
        have hw : lo_Wd X ([oX8 (d 0) (N10 0) (d 1) (d 2) (N10 3) (d 3) (N10 5) (d 4) (d 5) (d 6) (N10 9) (d 7) (N10 11) (N10 12) (N10 13) (N10 14) (N10 15) (N10 16) (N10 17) (N10 18) (N10 19) (N10 20) (N10 21) (N10 22) (N10 23) (N10 24) (N10 25) (N10 26) (N10 27) (N10 28), arI X (d 1) 122 (wLong w i a), arA X (d 2) 8 (rq r (rmQ q (M 3)))] ++ ((rwW X r (rmC C q (M 3) w)))) A9 s9.heap H locs := hw
        refine W.eq (g2 := F0 m9 55 ls []) rfl ?_
        refine lv_aload_n Ex Eb dX8_extendTerm_55 rfl (lv_at hl 0 rfl) ?_
        refine lv_iload_n Ex Eb dX8_extendTerm_56 rfl (lv_at hl 1 rfl) ?_
        refine lv_iconst (v := iI 4) Ex Eb dX8_extendTerm_57 rfl ?_
        refine lo_callV (q0 := 0) (rest := []) E hK hw (kX8_of l X d N10 (wLong w i a) i 4 (by omega) (by omega)) (cwV 2 E.2.2.2.2 gX8_extendTerm_X8_of rfl rfl rfl (by decide +kernel) ⟨Nat.le_of_ble_eq_true rfl, Nat.le_of_ble_eq_true rfl⟩) rfl rfl [0, 1] rfl (by decide) hl.1 rfl rfl (Nat.le_of_ble_eq_true rfl) dX8_extendTerm_58 ⟨Nat.le_of_ble_eq_true rfl, Nat.le_of_ble_eq_true rfl⟩ (fun v w1 H locs hq hw => ?_)
        obtain ⟨rfl, rfl⟩ := hq
        have hw : lo_Wd X ([oX8 (d 0) (N10 0) (d 1) (d 2) (N10 3) (d 3) (N10 5) (d 4) (d 5) (d 6) (N10 9) (d 7) (N10 11) (N10 12) (N10 13) (N10 14) (N10 15) (N10 16) (N10 17) (N10 18) (N10 19) (N10 20) (N10 21) (N10 22) (N10 23) (N10 24) (N10 25) (N10 26) (N10 27) (N10 28), arI X (d 1) 122 (wLong w i a), arA X (d 2) 8 (rq r (rmQ q (M 3)))] ++ ((rwW X r (rmC C q (M 3) w)))) A9 s9.heap H locs := hw
        refine W.eq (g2 := F0 m9 61 ls [.int (iI (wOf (wLong w i a) i 4))]) rfl ?_
        exact lo_iret E hRt hLk hK hAe hw dX8_extendTerm_61 rfl ⟨N10, wLong w i a, rmQ q (M 3), rmC C q (M 3) w, wOf (wLong w i a) i 4, (fun k h0 h3 hk h8 => by first | (simp [uI, h0, h3, q52_0 k hk]; done) | (simp [uI, h0, h3]; done)), (by first | (exfalso; omega) | (exact Or.inl ⟨(by first | (simp [uI, q52_0 0 (by omega)] <;> omega) | (omega)), by omega, rfl, rfl, (by first | (simp [uI, q52_0 3 (by omega)] <;> omega) | (omega)), rfl, rfl⟩) | (exact Or.inr (Or.inl ⟨(by first | (simp [uI] <;> omega) | (omega)), by omega, rfl, rfl, (by first | (simp [uI] <;> omega) | (omega)), rfl, rfl⟩)) | (exact Or.inr (Or.inr (Or.inl ⟨(by first | (simp [uI] <;> omega) | (omega)), by omega, rfl, rfl, (by first | (simp [uI] <;> omega) | (omega)), rfl, rfl⟩))) | (exact Or.inr (Or.inr (Or.inr (⟨(by first | (simp [uI] <;> omega) | (omega)), by omega, rfl, rfl, (by first | (simp [uI] <;> omega) | (omega)), rfl, rfl⟩))))), rfl, rfl⟩
      · skip
        refine lv_iconst (v := iI 0) Ex Eb dX8_extendTerm_39 rfl ?_
        exact lo_iret E hRt hLk hK hAe hw dX8_extendTerm_40 rfl ⟨uI M 0 t8, w, q, C, 0, (fun k h0 h3 hk h8 => by first | (simp [uI, h0, h3, q52_0 k hk]; done) | (simp [uI, h0, h3]; done)), (by first | (exfalso; omega) | (exact Or.inl ⟨(by first | (simp [uI, q52_0 0 (by omega)] <;> omega) | (omega)), by omega, rfl, rfl, (by first | (simp [uI, q52_0 3 (by omega)] <;> omega) | (omega)), rfl, rfl⟩) | (exact Or.inr (Or.inl ⟨(by first | (simp [uI] <;> omega) | (omega)), by omega, rfl, rfl, (by first | (simp [uI] <;> omega) | (omega)), rfl, rfl⟩)) | (exact Or.inr (Or.inr (Or.inl ⟨(by first | (simp [uI] <;> omega) | (omega)), by omega, rfl, rfl, (by first | (simp [uI] <;> omega) | (omega)), rfl, rfl⟩))) | (exact Or.inr (Or.inr (Or.inr (⟨(by first | (simp [uI] <;> omega) | (omega)), by omega, rfl, rfl, (by first | (simp [uI] <;> omega) | (omega)), rfl, rfl⟩))))), rfl, rfl⟩
set_option maxHeartbeats 4000000 in
set_option maxRecDepth 100000 in
theorem kX8_refinance (l : Launch) (X : KX) (kS : Nat → Nat) (d r q : Nat → Nat) (M : Nat → Int) (C : Nat → Nat → Int) (w : Nat → Int) (i : Int) (a : Int) (m : Int) (hpc : 0 ≤ M 3 ∧ M 3 ≤ 8) (hq : ∀ j, j < 8 → q j < 8) (hWI : WI w) (hi9 : i32 i) (ha9 : i32 a) (hm32 : i32 m) : CE l X kS yX8_refinance wsX8_refinance ({ frames := 6, cells := 0, slots := 0, locals := 151 }) [.ref (d 0), .int (iI i), .int (iI a), .int (iI m)] ([oX8 (d 0) (M 0) (d 1) (d 2) (M 3) (d 3) (M 5) (d 4) (d 5) (d 6) (M 9) (d 7) (M 11) (M 12) (M 13) (M 14) (M 15) (M 16) (M 17) (M 18) (M 19) (M 20) (M 21) (M 22) (M 23) (M 24) (M 25) (M 26) (M 27) (M 28), arI X (d 1) 122 w, arA X (d 2) 8 (rq r q)] ++ ((rwW X r C))) (fun v9 w9 => ∃ N : Nat → Int, ∃ u : Nat → Int, ∃ p : Nat → Nat, ∃ K : Nat → Nat → Int, ∃ z : Int, (sameQ M N) ∧ ((N 0 = 0 ∧ ((0 ≤ i ∧ i < w 0) ∧ ((0 ≤ a ∧ a ≤ 3000) ∧ (1 ≤ m ∧ m ≤ 120)) ∧ 0 < wOf w i 1) ∧ u = wSet w i a m ∧ z = wOf (wSet w i a m) i 4 ∧ N 3 = min (M 3 + 1) 8 ∧ p = rmQ q (M 3) ∧ K = rmC C q (M 3) w) ∨ (N 0 = 1 ∧ (¬ (0 ≤ i ∧ i < w 0)) ∧ u = w ∧ z = 0 ∧ N 3 = M 3 ∧ p = q ∧ K = C) ∨ (N 0 = 2 ∧ ((0 ≤ i ∧ i < w 0) ∧ ¬ ((0 ≤ a ∧ a ≤ 3000) ∧ (1 ≤ m ∧ m ≤ 120))) ∧ u = w ∧ z = 0 ∧ N 3 = M 3 ∧ p = q ∧ K = C) ∨ (N 0 = 3 ∧ ((0 ≤ i ∧ i < w 0) ∧ ((0 ≤ a ∧ a ≤ 3000) ∧ (1 ≤ m ∧ m ≤ 120)) ∧ wOf w i 1 ≤ 0) ∧ u = w ∧ z = 0 ∧ N 3 = M 3 ∧ p = q ∧ K = C)) ∧ v9 = some (.int (iI z)) ∧ w9 = [oX8 (d 0) (N 0) (d 1) (d 2) (N 3) (d 3) (N 5) (d 4) (d 5) (d 6) (N 9) (d 7) (N 11) (N 12) (N 13) (N 14) (N 15) (N 16) (N 17) (N 18) (N 19) (N 20) (N 21) (N 22) (N 23) (N 24) (N 25) (N 26) (N 27) (N 28), arI X (d 1) 122 u, arA X (d 2) 8 (rq r p)] ++ ((rwW X r K))) 0 0 := by
  refine lo_enterE (cc := cX8_refinance) (maxL := 4) (ret := (some .int)) (lv := [(0, .ref (d 0)), (1, .int (iI i)), (2, .int (iI a)), (3, .int (iI m))]) (by decide) rfl rfl (Nat.le_of_ble_eq_true rfl) ?_
  intro p9 e9 s9 m9 bl9 me9 c9 A9 ls hAe E hRt hLk hK hl hw hV
  have Ex := E.1
  have Eb := E.2.1
  have huRX8 : ∀ w ∈ u_ws RX8 TX8 29, w ∈ wsX8_refinance := by decide +kernel
  have hf56 : (Cond.fieldLink RX8 56 "LoanScheduleModel" "thrown" "I").before _ s9 = true := E.2.2.2.2 _ (List.mem_of_getElem? (i := 1) rfl)
  have hf9 : (Cond.fieldLink RX8 9 "LoanScheduleModel" "w" "[I").before _ s9 = true := E.2.2.2.2 _ (List.mem_of_getElem? (i := 2) rfl)
  obtain ⟨⟨hn0, hn1⟩, ⟨hb0, hb1⟩, hL⟩ := id hWI
  refine lv_aload_n Ex Eb dX8_refinance_0 rfl (lv_at hl 0 rfl) ?_
  refine lv_iconst (v := iI 0) Ex Eb dX8_refinance_1 rfl ?_
  refine lo_put E hK hw huRX8 tyX8 tyX8_ok nmX8 0 hf56 rfl 0 rfl rfl (by decide) rfl rfl rfl rfl (Nat.le_of_ble_eq_true rfl) (ws' := [oX8 (d 0) 0 (d 1) (d 2) (M 3) (d 3) (M 5) (d 4) (d 5) (d 6) (M 9) (d 7) (M 11) (M 12) (M 13) (M 14) (M 15) (M 16) (M 17) (M 18) (M 19) (M 20) (M 21) (M 22) (M 23) (M 24) (M 25) (M 26) (M 27) (M 28), arI X (d 1) 122 w, arA X (d 2) 8 (rq r q)] ++ ((rwW X r C))) rfl dX8_refinance_2 (fun H locs hw => ?_)
  refine lv_aload_n Ex Eb dX8_refinance_5 rfl (lv_at hl 0 rfl) ?_
  refine lv_iload_n Ex Eb dX8_refinance_6 rfl (lv_at hl 1 rfl) ?_
  refine lo_callV (q0 := 0) (rest := []) E hK hw (kX8_noLoan l X d (uI M 0 0) w i (by omega) (by omega)) (cwV 1 E.2.2.2.2 gX8_refinance_X8_noLoan rfl rfl rfl (by decide +kernel) ⟨Nat.le_of_ble_eq_true rfl, Nat.le_of_ble_eq_true rfl⟩) rfl rfl [0, 1] rfl (by decide) hl.1 rfl rfl (Nat.le_of_ble_eq_true rfl) dX8_refinance_7 ⟨Nat.le_of_ble_eq_true rfl, Nat.le_of_ble_eq_true rfl⟩ (fun v w1 H locs hq hw => ?_)
  obtain ⟨z1, t2, q7_0, rfl, rfl⟩ := hq
  change (z1 = 0 ∧ t2 = 0 ∧ 0 ≤ i ∧ i < w 0) ∨ (z1 = 1 ∧ t2 = 1 ∧ ¬ (0 ≤ i ∧ i < w 0)) at q7_0
  have hw : lo_Wd X ([oX8 (d 0) t2 (d 1) (d 2) (M 3) (d 3) (M 5) (d 4) (d 5) (d 6) (M 9) (d 7) (M 11) (M 12) (M 13) (M 14) (M 15) (M 16) (M 17) (M 18) (M 19) (M 20) (M 21) (M 22) (M 23) (M 24) (M 25) (M 26) (M 27) (M 28), arI X (d 1) 122 w, arA X (d 2) 8 (rq r q)] ++ ((rwW X r C))) A9 s9.heap H locs := hw
  refine W.eq (g2 := F0 m9 10 ls [.int (iI z1)]) rfl ?_
  refine lo_if_ne (tgt := 43) E dX8_refinance_10 (by decide) (by omega) (fun c3 => ?_) (fun c3 => ?_)
  · skip
    refine lv_iconst (v := iI 0) Ex Eb dX8_refinance_43 rfl ?_
    exact lo_iret E hRt hLk hK hAe hw dX8_refinance_44 rfl ⟨uI M 0 t2, w, q, C, 0, (fun k h0 h3 hk h8 => by first | (simp [uI, h0, h3, q57_0 k hk]; done) | (simp [uI, h0, h3]; done)), (by first | (exfalso; omega) | (exact Or.inl ⟨(by first | (simp [uI, q57_0 0 (by omega)] <;> omega) | (omega)), by omega, rfl, rfl, (by first | (simp [uI, q57_0 3 (by omega)] <;> omega) | (omega)), rfl, rfl⟩) | (exact Or.inr (Or.inl ⟨(by first | (simp [uI] <;> omega) | (omega)), by omega, rfl, rfl, (by first | (simp [uI] <;> omega) | (omega)), rfl, rfl⟩)) | (exact Or.inr (Or.inr (Or.inl ⟨(by first | (simp [uI] <;> omega) | (omega)), by omega, rfl, rfl, (by first | (simp [uI] <;> omega) | (omega)), rfl, rfl⟩))) | (exact Or.inr (Or.inr (Or.inr (⟨(by first | (simp [uI] <;> omega) | (omega)), by omega, rfl, rfl, (by first | (simp [uI] <;> omega) | (omega)), rfl, rfl⟩))))), rfl, rfl⟩
  · skip
    refine lv_aload_n Ex Eb dX8_refinance_13 rfl (lv_at hl 0 rfl) ?_
    refine lv_iload_n Ex Eb dX8_refinance_14 rfl (lv_at hl 2 rfl) ?_
    refine lv_iload_n Ex Eb dX8_refinance_15 rfl (lv_at hl 3 rfl) ?_
    refine lo_callV (q0 := 0) (rest := []) E hK hw (kX8_badTerms l X d (uI M 0 t2) a m (by omega) (by omega)) (cwV 2 E.2.2.2.2 gX8_refinance_X8_badTerms rfl rfl rfl (by decide +kernel) ⟨Nat.le_of_ble_eq_true rfl, Nat.le_of_ble_eq_true rfl⟩) rfl rfl [0] rfl (by decide) hl.1 rfl rfl (Nat.le_of_ble_eq_true rfl) dX8_refinance_16 ⟨Nat.le_of_ble_eq_true rfl, Nat.le_of_ble_eq_true rfl⟩ (fun v w1 H locs hq hw => ?_)
    obtain ⟨z4, t5, q16_0, rfl, rfl⟩ := hq
    change (z4 = 0 ∧ t5 = t2 ∧ (0 ≤ a ∧ a ≤ 3000) ∧ 1 ≤ m ∧ m ≤ 120) ∨ (z4 = 1 ∧ t5 = 2 ∧ ¬ ((0 ≤ a ∧ a ≤ 3000) ∧ 1 ≤ m ∧ m ≤ 120)) at q16_0
    have hw : lo_Wd X ([oX8 (d 0) t5 (d 1) (d 2) (M 3) (d 3) (M 5) (d 4) (d 5) (d 6) (M 9) (d 7) (M 11) (M 12) (M 13) (M 14) (M 15) (M 16) (M 17) (M 18) (M 19) (M 20) (M 21) (M 22) (M 23) (M 24) (M 25) (M 26) (M 27) (M 28), arI X (d 1) 122 w, arA X (d 2) 8 (rq r q)] ++ ((rwW X r C))) A9 s9.heap H locs := hw
    refine W.eq (g2 := F0 m9 19 ls [.int (iI z4)]) rfl ?_
    refine lo_if_ne (tgt := 43) E dX8_refinance_19 (by decide) (by omega) (fun c6 => ?_) (fun c6 => ?_)
    · skip
      refine lv_iconst (v := iI 0) Ex Eb dX8_refinance_43 rfl ?_
      exact lo_iret E hRt hLk hK hAe hw dX8_refinance_44 rfl ⟨uI M 0 t5, w, q, C, 0, (fun k h0 h3 hk h8 => by first | (simp [uI, h0, h3, q57_0 k hk]; done) | (simp [uI, h0, h3]; done)), (by first | (exfalso; omega) | (exact Or.inl ⟨(by first | (simp [uI, q57_0 0 (by omega)] <;> omega) | (omega)), by omega, rfl, rfl, (by first | (simp [uI, q57_0 3 (by omega)] <;> omega) | (omega)), rfl, rfl⟩) | (exact Or.inr (Or.inl ⟨(by first | (simp [uI] <;> omega) | (omega)), by omega, rfl, rfl, (by first | (simp [uI] <;> omega) | (omega)), rfl, rfl⟩)) | (exact Or.inr (Or.inr (Or.inl ⟨(by first | (simp [uI] <;> omega) | (omega)), by omega, rfl, rfl, (by first | (simp [uI] <;> omega) | (omega)), rfl, rfl⟩))) | (exact Or.inr (Or.inr (Or.inr (⟨(by first | (simp [uI] <;> omega) | (omega)), by omega, rfl, rfl, (by first | (simp [uI] <;> omega) | (omega)), rfl, rfl⟩))))), rfl, rfl⟩
    · skip
      have hLi := hL i (by omega) (by omega)
      have hb9 : 0 ≤ wOf w i 1 ∧ wOf w i 1 ≤ 9999999 := hLi.1
      have hm9 : 0 ≤ wOf w i 3 ∧ wOf w i 3 ≤ 120 := hLi.2.2.2.1
      refine lv_aload_n Ex Eb dX8_refinance_22 rfl (lv_at hl 0 rfl) ?_
      refine lv_aload_n Ex Eb dX8_refinance_23 rfl (lv_at hl 0 rfl) ?_
      refine lv_iload_n Ex Eb dX8_refinance_24 rfl (lv_at hl 1 rfl) ?_
      refine lo_callV (q0 := 0) (rest := [.ref (d 0)]) E hK hw (kX8_isRunning l X d (uI M 0 t5) w i (by omega) (by omega)) (cwV 1 E.2.2.2.2 gX8_refinance_X8_isRunning rfl rfl rfl (by decide +kernel) ⟨Nat.le_of_ble_eq_true rfl, Nat.le_of_ble_eq_true rfl⟩) rfl rfl [0, 1] rfl (by decide) hl.1 rfl rfl (Nat.le_of_ble_eq_true rfl) dX8_refinance_25 ⟨Nat.le_of_ble_eq_true rfl, Nat.le_of_ble_eq_true rfl⟩ (fun v w1 H locs hq hw => ?_)
      obtain ⟨r7, q25_0, rfl, rfl⟩ := hq
      have hw : lo_Wd X ([oX8 (d 0) t5 (d 1) (d 2) (M 3) (d 3) (M 5) (d 4) (d 5) (d 6) (M 9) (d 7) (M 11) (M 12) (M 13) (M 14) (M 15) (M 16) (M 17) (M 18) (M 19) (M 20) (M 21) (M 22) (M 23) (M 24) (M 25) (M 26) (M 27) (M 28), arI X (d 1) 122 w, arA X (d 2) 8 (rq r q)] ++ ((rwW X r C))) A9 s9.heap H locs := hw
      refine W.eq (g2 := F0 m9 28 ls [.int (iI r7), .ref (d 0)]) rfl ?_
      refine lo_if_ne (tgt := 35) E dX8_refinance_28 (by decide) (by omega) (fun c8 => ?_) (fun c8 => ?_)
      · skip
        refine lv_iconst (v := iI 0) Ex Eb dX8_refinance_35 rfl ?_
        refine lv_iconst (v := iI 3) Ex Eb dX8_refinance_36 rfl ?_
        refine lo_callV (q0 := 0) (rest := []) E hK hw (kX8_raise l X d (uI M 0 t5) 0 3 (by omega)) (cwV 2 E.2.2.2.2 gX8_refinance_X8_raise rfl rfl rfl (by decide +kernel) ⟨Nat.le_of_ble_eq_true rfl, Nat.le_of_ble_eq_true rfl⟩) rfl rfl [0] rfl (by decide) hl.1 rfl rfl (Nat.le_of_ble_eq_true rfl) dX8_refinance_37 ⟨Nat.le_of_ble_eq_true rfl, Nat.le_of_ble_eq_true rfl⟩ (fun v w1 H locs hq hw => ?_)
        obtain ⟨t9, q37_0, rfl, rfl⟩ := hq
        change (0 = 0 ∧ t9 = t5) ∨ (0 = 1 ∧ t9 = 3) at q37_0
        have hw : lo_Wd X ([oX8 (d 0) t9 (d 1) (d 2) (M 3) (d 3) (M 5) (d 4) (d 5) (d 6) (M 9) (d 7) (M 11) (M 12) (M 13) (M 14) (M 15) (M 16) (M 17) (M 18) (M 19) (M 20) (M 21) (M 22) (M 23) (M 24) (M 25) (M 26) (M 27) (M 28), arI X (d 1) 122 w, arA X (d 2) 8 (rq r q)] ++ ((rwW X r C))) A9 s9.heap H locs := hw
        refine W.eq (g2 := F0 m9 40 ls [.int (iI 0)]) rfl ?_
        refine lo_if_eq (tgt := 45) E dX8_refinance_40 (by decide) (by omega) (fun c10 => ?_) (fun c10 => ?_)
        · skip
          refine lv_aload_n Ex Eb dX8_refinance_45 rfl (lv_at hl 0 rfl) ?_
          refine lv_aload_n Ex Eb dX8_refinance_46 rfl (lv_at hl 0 rfl) ?_
          refine lo_get E hK hw huRX8 1 hf9 rfl 0 rfl rfl (by decide) (v := .ref (d 1)) rfl dX8_refinance_47 ?_
          refine lo_callVE (q0 := 0) (rest := []) E hK hw hV (kX8_remember l X kS d r q (uI M 0 t9) C (d 1) w (show 0 ≤ (M 3) ∧ (M 3) ≤ 8 by omega) (by omega)) (cwV 1 E.2.2.2.2 gX8_refinance_X8_remember rfl rfl rfl (by decide +kernel) ⟨Nat.le_of_ble_eq_true rfl, Nat.le_of_ble_eq_true rfl⟩) rfl rfl [0, 1, 2, 3, 4, 5, 6, 7, 8, 9, 10] rfl (by decide) hl.1 rfl rfl (Nat.le_of_ble_eq_true rfl) dX8_refinance_50 ⟨Nat.le_of_ble_eq_true rfl, Nat.le_of_ble_eq_true rfl⟩ (fun v w1 H locs hq hw => ?_)
          obtain ⟨rfl, rfl⟩ := hq
          have hw : lo_Wd X ([oX8 (d 0) t9 (d 1) (d 2) (min ((M 3) + 1) 8) (d 3) (M 5) (d 4) (d 5) (d 6) (M 9) (d 7) (M 11) (M 12) (M 13) (M 14) (M 15) (M 16) (M 17) (M 18) (M 19) (M 20) (M 21) (M 22) (M 23) (M 24) (M 25) (M 26) (M 27) (M 28), arI X (d 1) 122 w, arA X (d 2) 8 (rq r (rmQ q (M 3)))] ++ ((rwW X r (rmC C q (M 3) w)))) A9 s9.heap H locs := hw
          refine W.eq (g2 := F0 m9 53 ls []) rfl ?_
          refine lv_aload_n Ex Eb dX8_refinance_53 rfl (lv_at hl 0 rfl) ?_
          refine lv_iload_n Ex Eb dX8_refinance_54 rfl (lv_at hl 1 rfl) ?_
          refine lv_iload_n Ex Eb dX8_refinance_55 rfl (lv_at hl 2 rfl) ?_
          refine lv_iload_n Ex Eb dX8_refinance_56 rfl (lv_at hl 3 rfl) ?_
          refine lo_callV (q0 := 0) (rest := []) E hK hw (kX8_setTerms l X d (uI (uI M 0 t9) 3 (min ((M 3) + 1) 8)) w i a m (by omega) (hLi) (by omega) (by omega) (by omega)) (cwV 3 E.2.2.2.2 gX8_refinance_X8_setTerms rfl rfl rfl (by decide +kernel) ⟨Nat.le_of_ble_eq_true rfl, Nat.le_of_ble_eq_true rfl⟩) rfl rfl [0, 1] rfl (by decide) hl.1 rfl rfl (Nat.le_of_ble_eq_true rfl) dX8_refinance_57 ⟨Nat.le_of_ble_eq_true rfl, Nat.le_of_ble_eq_true rfl⟩ (fun v w1 H locs hq hw => ?_)
          obtain ⟨N11, q57_0, rfl, rfl⟩ := hq
          have hw : lo_Wd X ([oX8 (d 0) (N11 0) (d 1) (d 2) (N11 3) (d 3) (N11 5) (d 4) (d 5) (d 6) (N11 9) (d 7) (N11 11) (N11 12) (N11 13) (N11 14) (N11 15) (N11 16) (N11 17) (N11 18) (N11 19) (N11 20) (N11 21) (N11 22) (N11 23) (N11 24) (N11 25) (N11 26) (N11 27) (N11 28), arI X (d 1) 122 (wSet w i a m), arA X (d 2) 8 (rq r (rmQ q (M 3)))] ++ ((rwW X r (rmC C q (M 3) w)))) A9 s9.heap H locs := hw
          refine W.eq (g2 := F0 m9 60 ls []) rfl ?_
          refine lv_aload_n Ex Eb dX8_refinance_60 rfl (lv_at hl 0 rfl) ?_
          refine lv_iload_n Ex Eb dX8_refinance_61 rfl (lv_at hl 1 rfl) ?_
          refine lv_iconst (v := iI 4) Ex Eb dX8_refinance_62 rfl ?_
          refine lo_callV (q0 := 0) (rest := []) E hK hw (kX8_of l X d N11 (wSet w i a m) i 4 (by omega) (by omega)) (cwV 2 E.2.2.2.2 gX8_refinance_X8_of rfl rfl rfl (by decide +kernel) ⟨Nat.le_of_ble_eq_true rfl, Nat.le_of_ble_eq_true rfl⟩) rfl rfl [0, 1] rfl (by decide) hl.1 rfl rfl (Nat.le_of_ble_eq_true rfl) dX8_refinance_63 ⟨Nat.le_of_ble_eq_true rfl, Nat.le_of_ble_eq_true rfl⟩ (fun v w1 H locs hq hw => ?_)
          obtain ⟨rfl, rfl⟩ := hq
          have hw : lo_Wd X ([oX8 (d 0) (N11 0) (d 1) (d 2) (N11 3) (d 3) (N11 5) (d 4) (d 5) (d 6) (N11 9) (d 7) (N11 11) (N11 12) (N11 13) (N11 14) (N11 15) (N11 16) (N11 17) (N11 18) (N11 19) (N11 20) (N11 21) (N11 22) (N11 23) (N11 24) (N11 25) (N11 26) (N11 27) (N11 28), arI X (d 1) 122 (wSet w i a m), arA X (d 2) 8 (rq r (rmQ q (M 3)))] ++ ((rwW X r (rmC C q (M 3) w)))) A9 s9.heap H locs := hw
          refine W.eq (g2 := F0 m9 66 ls [.int (iI (wOf (wSet w i a m) i 4))]) rfl ?_
          exact lo_iret E hRt hLk hK hAe hw dX8_refinance_66 rfl ⟨N11, wSet w i a m, rmQ q (M 3), rmC C q (M 3) w, wOf (wSet w i a m) i 4, (fun k h0 h3 hk h8 => by first | (simp [uI, h0, h3, q57_0 k hk]; done) | (simp [uI, h0, h3]; done)), (by first | (exfalso; omega) | (exact Or.inl ⟨(by first | (simp [uI, q57_0 0 (by omega)] <;> omega) | (omega)), by omega, rfl, rfl, (by first | (simp [uI, q57_0 3 (by omega)] <;> omega) | (omega)), rfl, rfl⟩) | (exact Or.inr (Or.inl ⟨(by first | (simp [uI] <;> omega) | (omega)), by omega, rfl, rfl, (by first | (simp [uI] <;> omega) | (omega)), rfl, rfl⟩)) | (exact Or.inr (Or.inr (Or.inl ⟨(by first | (simp [uI] <;> omega) | (omega)), by omega, rfl, rfl, (by first | (simp [uI] <;> omega) | (omega)), rfl, rfl⟩))) | (exact Or.inr (Or.inr (Or.inr (⟨(by first | (simp [uI] <;> omega) | (omega)), by omega, rfl, rfl, (by first | (simp [uI] <;> omega) | (omega)), rfl, rfl⟩))))), rfl, rfl⟩
        · skip
          refine lv_iconst (v := iI 0) Ex Eb dX8_refinance_43 rfl ?_
          exact lo_iret E hRt hLk hK hAe hw dX8_refinance_44 rfl ⟨uI M 0 t9, w, q, C, 0, (fun k h0 h3 hk h8 => by first | (simp [uI, h0, h3, q57_0 k hk]; done) | (simp [uI, h0, h3]; done)), (by first | (exfalso; omega) | (exact Or.inl ⟨(by first | (simp [uI, q57_0 0 (by omega)] <;> omega) | (omega)), by omega, rfl, rfl, (by first | (simp [uI, q57_0 3 (by omega)] <;> omega) | (omega)), rfl, rfl⟩) | (exact Or.inr (Or.inl ⟨(by first | (simp [uI] <;> omega) | (omega)), by omega, rfl, rfl, (by first | (simp [uI] <;> omega) | (omega)), rfl, rfl⟩)) | (exact Or.inr (Or.inr (Or.inl ⟨(by first | (simp [uI] <;> omega) | (omega)), by omega, rfl, rfl, (by first | (simp [uI] <;> omega) | (omega)), rfl, rfl⟩))) | (exact Or.inr (Or.inr (Or.inr (⟨(by first | (simp [uI] <;> omega) | (omega)), by omega, rfl, rfl, (by first | (simp [uI] <;> omega) | (omega)), rfl, rfl⟩))))), rfl, rfl⟩
      · skip
        refine lv_iconst (v := iI 1) Ex Eb dX8_refinance_31 rfl ?_
        refine lv_goto (tgt := 36) Ex Eb dX8_refinance_32 (by decide) ?_
        refine lv_iconst (v := iI 3) Ex Eb dX8_refinance_36 rfl ?_
        refine lo_callV (q0 := 0) (rest := []) E hK hw (kX8_raise l X d (uI M 0 t5) 1 3 (by omega)) (cwV 2 E.2.2.2.2 gX8_refinance_X8_raise rfl rfl rfl (by decide +kernel) ⟨Nat.le_of_ble_eq_true rfl, Nat.le_of_ble_eq_true rfl⟩) rfl rfl [0] rfl (by decide) hl.1 rfl rfl (Nat.le_of_ble_eq_true rfl) dX8_refinance_37 ⟨Nat.le_of_ble_eq_true rfl, Nat.le_of_ble_eq_true rfl⟩ (fun v w1 H locs hq hw => ?_)
        obtain ⟨t12, q37_0, rfl, rfl⟩ := hq
        change (1 = 0 ∧ t12 = t5) ∨ (1 = 1 ∧ t12 = 3) at q37_0
        have hw : lo_Wd X ([oX8 (d 0) t12 (d 1) (d 2) (M 3) (d 3) (M 5) (d 4) (d 5) (d 6) (M 9) (d 7) (M 11) (M 12) (M 13) (M 14) (M 15) (M 16) (M 17) (M 18) (M 19) (M 20) (M 21) (M 22) (M 23) (M 24) (M 25) (M 26) (M 27) (M 28), arI X (d 1) 122 w, arA X (d 2) 8 (rq r q)] ++ ((rwW X r C))) A9 s9.heap H locs := hw
        refine W.eq (g2 := F0 m9 40 ls [.int (iI 1)]) rfl ?_
        refine lo_if_eq (tgt := 45) E dX8_refinance_40 (by decide) (by omega) (fun c13 => ?_) (fun c13 => ?_)
        · skip
          refine lv_aload_n Ex Eb dX8_refinance_45 rfl (lv_at hl 0 rfl) ?_
          refine lv_aload_n Ex Eb dX8_refinance_46 rfl (lv_at hl 0 rfl) ?_
          refine lo_get E hK hw huRX8 1 hf9 rfl 0 rfl rfl (by decide) (v := .ref (d 1)) rfl dX8_refinance_47 ?_
          refine lo_callVE (q0 := 0) (rest := []) E hK hw hV (kX8_remember l X kS d r q (uI M 0 t12) C (d 1) w (show 0 ≤ (M 3) ∧ (M 3) ≤ 8 by omega) (by omega)) (cwV 1 E.2.2.2.2 gX8_refinance_X8_remember rfl rfl rfl (by decide +kernel) ⟨Nat.le_of_ble_eq_true rfl, Nat.le_of_ble_eq_true rfl⟩) rfl rfl [0, 1, 2, 3, 4, 5, 6, 7, 8, 9, 10] rfl (by decide) hl.1 rfl rfl (Nat.le_of_ble_eq_true rfl) dX8_refinance_50 ⟨Nat.le_of_ble_eq_true rfl, Nat.le_of_ble_eq_true rfl⟩ (fun v w1 H locs hq hw => ?_)
          obtain ⟨rfl, rfl⟩ := hq
          have hw : lo_Wd X ([oX8 (d 0) t12 (d 1) (d 2) (min ((M 3) + 1) 8) (d 3) (M 5) (d 4) (d 5) (d 6) (M 9) (d 7) (M 11) (M 12) (M 13) (M 14) (M 15) (M 16) (M 17) (M 18) (M 19) (M 20) (M 21) (M 22) (M 23) (M 24) (M 25) (M 26) (M 27) (M 28), arI X (d 1) 122 w, arA X (d 2) 8 (rq r (rmQ q (M 3)))] ++ ((rwW X r (rmC C q (M 3) w)))) A9 s9.heap H locs := hw
          refine W.eq (g2 := F0 m9 53 ls []) rfl ?_
          refine lv_aload_n Ex Eb dX8_refinance_53 rfl (lv_at hl 0 rfl) ?_
          refine lv_iload_n Ex Eb dX8_refinance_54 rfl (lv_at hl 1 rfl) ?_
          refine lv_iload_n Ex Eb dX8_refinance_55 rfl (lv_at hl 2 rfl) ?_
          refine lv_iload_n Ex Eb dX8_refinance_56 rfl (lv_at hl 3 rfl) ?_
          refine lo_callV (q0 := 0) (rest := []) E hK hw (kX8_setTerms l X d (uI (uI M 0 t12) 3 (min ((M 3) + 1) 8)) w i a m (by omega) (hLi) (by omega) (by omega) (by omega)) (cwV 3 E.2.2.2.2 gX8_refinance_X8_setTerms rfl rfl rfl (by decide +kernel) ⟨Nat.le_of_ble_eq_true rfl, Nat.le_of_ble_eq_true rfl⟩) rfl rfl [0, 1] rfl (by decide) hl.1 rfl rfl (Nat.le_of_ble_eq_true rfl) dX8_refinance_57 ⟨Nat.le_of_ble_eq_true rfl, Nat.le_of_ble_eq_true rfl⟩ (fun v w1 H locs hq hw => ?_)
          obtain ⟨N14, q57_0, rfl, rfl⟩ := hq
          have hw : lo_Wd X ([oX8 (d 0) (N14 0) (d 1) (d 2) (N14 3) (d 3) (N14 5) (d 4) (d 5) (d 6) (N14 9) (d 7) (N14 11) (N14 12) (N14 13) (N14 14) (N14 15) (N14 16) (N14 17) (N14 18) (N14 19) (N14 20) (N14 21) (N14 22) (N14 23) (N14 24) (N14 25) (N14 26) (N14 27) (N14 28), arI X (d 1) 122 (wSet w i a m), arA X (d 2) 8 (rq r (rmQ q (M 3)))] ++ ((rwW X r (rmC C q (M 3) w)))) A9 s9.heap H locs := hw
          refine W.eq (g2 := F0 m9 60 ls []) rfl ?_
          refine lv_aload_n Ex Eb dX8_refinance_60 rfl (lv_at hl 0 rfl) ?_
          refine lv_iload_n Ex Eb dX8_refinance_61 rfl (lv_at hl 1 rfl) ?_
          refine lv_iconst (v := iI 4) Ex Eb dX8_refinance_62 rfl ?_
          refine lo_callV (q0 := 0) (rest := []) E hK hw (kX8_of l X d N14 (wSet w i a m) i 4 (by omega) (by omega)) (cwV 2 E.2.2.2.2 gX8_refinance_X8_of rfl rfl rfl (by decide +kernel) ⟨Nat.le_of_ble_eq_true rfl, Nat.le_of_ble_eq_true rfl⟩) rfl rfl [0, 1] rfl (by decide) hl.1 rfl rfl (Nat.le_of_ble_eq_true rfl) dX8_refinance_63 ⟨Nat.le_of_ble_eq_true rfl, Nat.le_of_ble_eq_true rfl⟩ (fun v w1 H locs hq hw => ?_)
          obtain ⟨rfl, rfl⟩ := hq
          have hw : lo_Wd X ([oX8 (d 0) (N14 0) (d 1) (d 2) (N14 3) (d 3) (N14 5) (d 4) (d 5) (d 6) (N14 9) (d 7) (N14 11) (N14 12) (N14 13) (N14 14) (N14 15) (N14 16) (N14 17) (N14 18) (N14 19) (N14 20) (N14 21) (N14 22) (N14 23) (N14 24) (N14 25) (N14 26) (N14 27) (N14 28), arI X (d 1) 122 (wSet w i a m), arA X (d 2) 8 (rq r (rmQ q (M 3)))] ++ ((rwW X r (rmC C q (M 3) w)))) A9 s9.heap H locs := hw
          refine W.eq (g2 := F0 m9 66 ls [.int (iI (wOf (wSet w i a m) i 4))]) rfl ?_
          exact lo_iret E hRt hLk hK hAe hw dX8_refinance_66 rfl ⟨N14, wSet w i a m, rmQ q (M 3), rmC C q (M 3) w, wOf (wSet w i a m) i 4, (fun k h0 h3 hk h8 => by first | (simp [uI, h0, h3, q57_0 k hk]; done) | (simp [uI, h0, h3]; done)), (by first | (exfalso; omega) | (exact Or.inl ⟨(by first | (simp [uI, q57_0 0 (by omega)] <;> omega) | (omega)), by omega, rfl, rfl, (by first | (simp [uI, q57_0 3 (by omega)] <;> omega) | (omega)), rfl, rfl⟩) | (exact Or.inr (Or.inl ⟨(by first | (simp [uI] <;> omega) | (omega)), by omega, rfl, rfl, (by first | (simp [uI] <;> omega) | (omega)), rfl, rfl⟩)) | (exact Or.inr (Or.inr (Or.inl ⟨(by first | (simp [uI] <;> omega) | (omega)), by omega, rfl, rfl, (by first | (simp [uI] <;> omega) | (omega)), rfl, rfl⟩))) | (exact Or.inr (Or.inr (Or.inr (⟨(by first | (simp [uI] <;> omega) | (omega)), by omega, rfl, rfl, (by first | (simp [uI] <;> omega) | (omega)), rfl, rfl⟩))))), rfl, rfl⟩
        · skip
          refine lv_iconst (v := iI 0) Ex Eb dX8_refinance_43 rfl ?_
          exact lo_iret E hRt hLk hK hAe hw dX8_refinance_44 rfl ⟨uI M 0 t12, w, q, C, 0, (fun k h0 h3 hk h8 => by first | (simp [uI, h0, h3, q57_0 k hk]; done) | (simp [uI, h0, h3]; done)), (by first | (exfalso; omega) | (exact Or.inl ⟨(by first | (simp [uI, q57_0 0 (by omega)] <;> omega) | (omega)), by omega, rfl, rfl, (by first | (simp [uI, q57_0 3 (by omega)] <;> omega) | (omega)), rfl, rfl⟩) | (exact Or.inr (Or.inl ⟨(by first | (simp [uI] <;> omega) | (omega)), by omega, rfl, rfl, (by first | (simp [uI] <;> omega) | (omega)), rfl, rfl⟩)) | (exact Or.inr (Or.inr (Or.inl ⟨(by first | (simp [uI] <;> omega) | (omega)), by omega, rfl, rfl, (by first | (simp [uI] <;> omega) | (omega)), rfl, rfl⟩))) | (exact Or.inr (Or.inr (Or.inr (⟨(by first | (simp [uI] <;> omega) | (omega)), by omega, rfl, rfl, (by first | (simp [uI] <;> omega) | (omega)), rfl, rfl⟩))))), rfl, rfl⟩
set_option maxHeartbeats 4000000 in
set_option maxRecDepth 100000 in
theorem kX8_openLoan (l : Launch) (X : KX) (kS : Nat → Nat) (d r q : Nat → Nat) (M : Nat → Int) (C : Nat → Nat → Int) (w : Nat → Int) (a : Int) (b : Int) (m : Int) (hpc : 0 ≤ M 3 ∧ M 3 ≤ 8) (hq : ∀ j, j < 8 → q j < 8) (hWI : WI w) (ha9 : i32 a) (hb9 : i32 b) (hm32 : i32 m) : CE l X kS yX8_openLoan wsX8_openLoan ({ frames := 6, cells := 0, slots := 0, locals := 153 }) [.ref (d 0), .int (iI a), .int (iI b), .int (iI m)] ([oX8 (d 0) (M 0) (d 1) (d 2) (M 3) (d 3) (M 5) (d 4) (d 5) (d 6) (M 9) (d 7) (M 11) (M 12) (M 13) (M 14) (M 15) (M 16) (M 17) (M 18) (M 19) (M 20) (M 21) (M 22) (M 23) (M 24) (M 25) (M 26) (M 27) (M 28), arI X (d 1) 122 w, arA X (d 2) 8 (rq r q)] ++ ((rwW X r C))) (fun v9 w9 => ∃ N : Nat → Int, ∃ u : Nat → Int, ∃ p : Nat → Nat, ∃ K : Nat → Nat → Int, ∃ z : Int, (sameQ M N) ∧ ((N 0 = 0 ∧ (((1 ≤ a ∧ a ≤ 9999999) ∧ (0 ≤ b ∧ b ≤ 3000) ∧ (1 ≤ m ∧ m ≤ 120)) ∧ w 0 < 6) ∧ u = wNew w a b m ∧ z = w 0 ∧ N 3 = min (M 3 + 1) 8 ∧ p = rmQ q (M 3) ∧ K = rmC C q (M 3) w) ∨ (N 0 = 1 ∧ (¬ ((1 ≤ a ∧ a ≤ 9999999) ∧ (0 ≤ b ∧ b ≤ 3000) ∧ (1 ≤ m ∧ m ≤ 120))) ∧ u = w ∧ z = 0 ∧ N 3 = M 3 ∧ p = q ∧ K = C) ∨ (N 0 = 2 ∧ (((1 ≤ a ∧ a ≤ 9999999) ∧ (0 ≤ b ∧ b ≤ 3000) ∧ (1 ≤ m ∧ m ≤ 120)) ∧ w 0 = 6) ∧ u = w ∧ z = 0 ∧ N 3 = M 3 ∧ p = q ∧ K = C)) ∧ v9 = some (.int (iI z)) ∧ w9 = [oX8 (d 0) (N 0) (d 1) (d 2) (N 3) (d 3) (N 5) (d 4) (d 5) (d 6) (N 9) (d 7) (N 11) (N 12) (N 13) (N 14) (N 15) (N 16) (N 17) (N 18) (N 19) (N 20) (N 21) (N 22) (N 23) (N 24) (N 25) (N 26) (N 27) (N 28), arI X (d 1) 122 u, arA X (d 2) 8 (rq r p)] ++ ((rwW X r K))) 0 0 := by
  refine lo_enterE (cc := cX8_openLoan) (maxL := 4) (ret := (some .int)) (lv := [(0, .ref (d 0)), (1, .int (iI a)), (2, .int (iI b)), (3, .int (iI m))]) (by decide) rfl rfl (Nat.le_of_ble_eq_true rfl) ?_
  intro p9 e9 s9 m9 bl9 me9 c9 A9 ls hAe E hRt hLk hK hl hw hV
  have Ex := E.1
  have Eb := E.2.1
  have huRX8 : ∀ w ∈ u_ws RX8 TX8 29, w ∈ wsX8_openLoan := by decide +kernel
  have hf56 : (Cond.fieldLink RX8 56 "LoanScheduleModel" "thrown" "I").before _ s9 = true := E.2.2.2.2 _ (List.mem_of_getElem? (i := 1) rfl)
  have hc154 : (Cond.constant RX8 154 (9999999)).before _ s9 = true := E.2.2.2.2 _ (List.mem_of_getElem? (i := 2) rfl)
  have hf9 : (Cond.fieldLink RX8 9 "LoanScheduleModel" "w" "[I").before _ s9 = true := E.2.2.2.2 _ (List.mem_of_getElem? (i := 3) rfl)
  obtain ⟨⟨hn0, hn1⟩, ⟨hb0, hb1⟩, hL⟩ := id hWI
  refine lv_aload_n Ex Eb dX8_openLoan_0 rfl (lv_at hl 0 rfl) ?_
  refine lv_iconst (v := iI 0) Ex Eb dX8_openLoan_1 rfl ?_
  refine lo_put E hK hw huRX8 tyX8 tyX8_ok nmX8 0 hf56 rfl 0 rfl rfl (by decide) rfl rfl rfl rfl (Nat.le_of_ble_eq_true rfl) (ws' := [oX8 (d 0) 0 (d 1) (d 2) (M 3) (d 3) (M 5) (d 4) (d 5) (d 6) (M 9) (d 7) (M 11) (M 12) (M 13) (M 14) (M 15) (M 16) (M 17) (M 18) (M 19) (M 20) (M 21) (M 22) (M 23) (M 24) (M 25) (M 26) (M 27) (M 28), arI X (d 1) 122 w, arA X (d 2) 8 (rq r q)] ++ ((rwW X r C))) rfl dX8_openLoan_2 (fun H locs hw => ?_)
  refine lv_aload_n Ex Eb dX8_openLoan_5 rfl (lv_at hl 0 rfl) ?_
  refine lv_iload_n Ex Eb dX8_openLoan_6 rfl (lv_at hl 1 rfl) ?_
  refine lv_iconst (v := iI 1) Ex Eb dX8_openLoan_7 rfl ?_
  refine lo_ldc (z := 9999999) E hc154 dX8_openLoan_8 rfl ?_
  refine lv_iconst (v := iI 1) Ex Eb dX8_openLoan_10 rfl ?_
  refine lo_callV (q0 := 0) (rest := []) E hK hw (kX8_outside l X d (uI M 0 0) a 1 9999999 1 (by omega) (by omega) (by omega)) (cwV 4 E.2.2.2.2 gX8_openLoan_X8_outside rfl rfl rfl (by decide +kernel) ⟨Nat.le_of_ble_eq_true rfl, Nat.le_of_ble_eq_true rfl⟩) rfl rfl [0] rfl (by decide) hl.1 rfl rfl (Nat.le_of_ble_eq_true rfl) dX8_openLoan_11 ⟨Nat.le_of_ble_eq_true rfl, Nat.le_of_ble_eq_true rfl⟩ (fun v w1 H locs hq hw => ?_)
  obtain ⟨z1, t2, q11_0, rfl, rfl⟩ := hq
  change (z1 = 0 ∧ t2 = 0 ∧ 1 ≤ a ∧ a ≤ 9999999) ∨ (z1 = 1 ∧ t2 = 1 ∧ ¬ (1 ≤ a ∧ a ≤ 9999999)) at q11_0
  have hw : lo_Wd X ([oX8 (d 0) t2 (d 1) (d 2) (M 3) (d 3) (M 5) (d 4) (d 5) (d 6) (M 9) (d 7) (M 11) (M 12) (M 13) (M 14) (M 15) (M 16) (M 17) (M 18) (M 19) (M 20) (M 21) (M 22) (M 23) (M 24) (M 25) (M 26) (M 27) (M 28), arI X (d 1) 122 w, arA X (d 2) 8 (rq r q)] ++ ((rwW X r C))) A9 s9.heap H locs := hw
  refine W.eq (g2 := F0 m9 14 ls [.int (iI z1)]) rfl ?_
  refine lo_if_ne (tgt := 42) E dX8_openLoan_14 (by decide) (by omega) (fun c3 => ?_) (fun c3 => ?_)
  · skip
    refine lv_iconst (v := iI 0) Ex Eb dX8_openLoan_42 rfl ?_
    exact lo_iret E hRt hLk hK hAe hw dX8_openLoan_43 rfl ⟨uI M 0 t2, w, q, C, 0, (fun k h0 h3 hk h8 => by first | (simp [uI, h0, h3, q82_0 k hk]; done) | (simp [uI, h0, h3]; done)), (by first | (exfalso; omega) | (exact Or.inl ⟨(by first | (simp [uI, q82_0 0 (by omega)] <;> omega) | (omega)), by omega, rfl, rfl, (by first | (simp [uI, q82_0 3 (by omega)] <;> omega) | (omega)), rfl, rfl⟩) | (exact Or.inr (Or.inl ⟨(by first | (simp [uI] <;> omega) | (omega)), by omega, rfl, rfl, (by first | (simp [uI] <;> omega) | (omega)), rfl, rfl⟩)) | (exact Or.inr (Or.inr (⟨(by first | (simp [uI] <;> omega) | (omega)), by omega, rfl, rfl, (by first | (simp [uI] <;> omega) | (omega)), rfl, rfl⟩)))), rfl, rfl⟩
  · skip
    refine lv_aload_n Ex Eb dX8_openLoan_17 rfl (lv_at hl 0 rfl) ?_
    refine lv_iload_n Ex Eb dX8_openLoan_18 rfl (lv_at hl 2 rfl) ?_
    refine lv_iconst (v := iI 0) Ex Eb dX8_openLoan_19 rfl ?_
    refine lv_sipush (v := iI 3000) Ex Eb dX8_openLoan_20 rfl ?_
    refine lv_iconst (v := iI 1) Ex Eb dX8_openLoan_23 rfl ?_
    refine lo_callV (q0 := 0) (rest := []) E hK hw (kX8_outside l X d (uI M 0 t2) b 0 3000 1 (by omega) (by omega) (by omega)) (cwV 4 E.2.2.2.2 gX8_openLoan_X8_outside rfl rfl rfl (by decide +kernel) ⟨Nat.le_of_ble_eq_true rfl, Nat.le_of_ble_eq_true rfl⟩) rfl rfl [0] rfl (by decide) hl.1 rfl rfl (Nat.le_of_ble_eq_true rfl) dX8_openLoan_24 ⟨Nat.le_of_ble_eq_true rfl, Nat.le_of_ble_eq_true rfl⟩ (fun v w1 H locs hq hw => ?_)
    obtain ⟨z4, t5, q24_0, rfl, rfl⟩ := hq
    change (z4 = 0 ∧ t5 = t2 ∧ 0 ≤ b ∧ b ≤ 3000) ∨ (z4 = 1 ∧ t5 = 1 ∧ ¬ (0 ≤ b ∧ b ≤ 3000)) at q24_0
    have hw : lo_Wd X ([oX8 (d 0) t5 (d 1) (d 2) (M 3) (d 3) (M 5) (d 4) (d 5) (d 6) (M 9) (d 7) (M 11) (M 12) (M 13) (M 14) (M 15) (M 16) (M 17) (M 18) (M 19) (M 20) (M 21) (M 22) (M 23) (M 24) (M 25) (M 26) (M 27) (M 28), arI X (d 1) 122 w, arA X (d 2) 8 (rq r q)] ++ ((rwW X r C))) A9 s9.heap H locs := hw
    refine W.eq (g2 := F0 m9 27 ls [.int (iI z4)]) rfl ?_
    refine lo_if_ne (tgt := 42) E dX8_openLoan_27 (by decide) (by omega) (fun c6 => ?_) (fun c6 => ?_)
    · skip
      refine lv_iconst (v := iI 0) Ex Eb dX8_openLoan_42 rfl ?_
      exact lo_iret E hRt hLk hK hAe hw dX8_openLoan_43 rfl ⟨uI M 0 t5, w, q, C, 0, (fun k h0 h3 hk h8 => by first | (simp [uI, h0, h3, q82_0 k hk]; done) | (simp [uI, h0, h3]; done)), (by first | (exfalso; omega) | (exact Or.inl ⟨(by first | (simp [uI, q82_0 0 (by omega)] <;> omega) | (omega)), by omega, rfl, rfl, (by first | (simp [uI, q82_0 3 (by omega)] <;> omega) | (omega)), rfl, rfl⟩) | (exact Or.inr (Or.inl ⟨(by first | (simp [uI] <;> omega) | (omega)), by omega, rfl, rfl, (by first | (simp [uI] <;> omega) | (omega)), rfl, rfl⟩)) | (exact Or.inr (Or.inr (⟨(by first | (simp [uI] <;> omega) | (omega)), by omega, rfl, rfl, (by first | (simp [uI] <;> omega) | (omega)), rfl, rfl⟩)))), rfl, rfl⟩
    · skip
      refine lv_aload_n Ex Eb dX8_openLoan_30 rfl (lv_at hl 0 rfl) ?_
      refine lv_iload_n Ex Eb dX8_openLoan_31 rfl (lv_at hl 3 rfl) ?_
      refine lv_iconst (v := iI 1) Ex Eb dX8_openLoan_32 rfl ?_
      refine lv_bipush (v := iI 120) Ex Eb dX8_openLoan_33 rfl ?_
      refine lv_iconst (v := iI 1) Ex Eb dX8_openLoan_35 rfl ?_
      refine lo_callV (q0 := 0) (rest := []) E hK hw (kX8_outside l X d (uI M 0 t5) m 1 120 1 (by omega) (by omega) (by omega)) (cwV 4 E.2.2.2.2 gX8_openLoan_X8_outside rfl rfl rfl (by decide +kernel) ⟨Nat.le_of_ble_eq_true rfl, Nat.le_of_ble_eq_true rfl⟩) rfl rfl [0] rfl (by decide) hl.1 rfl rfl (Nat.le_of_ble_eq_true rfl) dX8_openLoan_36 ⟨Nat.le_of_ble_eq_true rfl, Nat.le_of_ble_eq_true rfl⟩ (fun v w1 H locs hq hw => ?_)
      obtain ⟨z7, t8, q36_0, rfl, rfl⟩ := hq
      change (z7 = 0 ∧ t8 = t5 ∧ 1 ≤ m ∧ m ≤ 120) ∨ (z7 = 1 ∧ t8 = 1 ∧ ¬ (1 ≤ m ∧ m ≤ 120)) at q36_0
      have hw : lo_Wd X ([oX8 (d 0) t8 (d 1) (d 2) (M 3) (d 3) (M 5) (d 4) (d 5) (d 6) (M 9) (d 7) (M 11) (M 12) (M 13) (M 14) (M 15) (M 16) (M 17) (M 18) (M 19) (M 20) (M 21) (M 22) (M 23) (M 24) (M 25) (M 26) (M 27) (M 28), arI X (d 1) 122 w, arA X (d 2) 8 (rq r q)] ++ ((rwW X r C))) A9 s9.heap H locs := hw
      refine W.eq (g2 := F0 m9 39 ls [.int (iI z7)]) rfl ?_
      refine lo_if_eq (tgt := 44) E dX8_openLoan_39 (by decide) (by omega) (fun c9 => ?_) (fun c9 => ?_)
      · skip
        refine lv_aload_n Ex Eb dX8_openLoan_44 rfl (lv_at hl 0 rfl) ?_
        refine lv_aload_n Ex Eb dX8_openLoan_45 rfl (lv_at hl 0 rfl) ?_
        refine lo_get E hK hw huRX8 1 hf9 rfl 0 rfl rfl (by decide) (v := .ref (d 1)) rfl dX8_openLoan_46 ?_
        refine lv_iconst (v := iI 0) Ex Eb dX8_openLoan_49 rfl ?_
        refine lo_iald E hK hw 1 rfl (by omega) dX8_openLoan_50 ?_
        refine W.eq (g2 := F0 m9 51 ls [.int (iI (w 0)), .ref (d 0)]) rfl ?_
        refine lv_bipush (v := iI 6) Ex Eb dX8_openLoan_51 rfl ?_
        refine lo_icmp_ne (tgt := 60) E dX8_openLoan_53 (by decide) (by omega) (by omega) (fun c10 => ?_) (fun c10 => ?_)
        · skip
          refine lv_iconst (v := iI 0) Ex Eb dX8_openLoan_60 rfl ?_
          refine lv_iconst (v := iI 2) Ex Eb dX8_openLoan_61 rfl ?_
          refine lo_callV (q0 := 0) (rest := []) E hK hw (kX8_raise l X d (uI M 0 t8) 0 2 (by omega)) (cwV 2 E.2.2.2.2 gX8_openLoan_X8_raise rfl rfl rfl (by decide +kernel) ⟨Nat.le_of_ble_eq_true rfl, Nat.le_of_ble_eq_true rfl⟩) rfl rfl [0] rfl (by decide) hl.1 rfl rfl (Nat.le_of_ble_eq_true rfl) dX8_openLoan_62 ⟨Nat.le_of_ble_eq_true rfl, Nat.le_of_ble_eq_true rfl⟩ (fun v w1 H locs hq hw => ?_)
          obtain ⟨t11, q62_0, rfl, rfl⟩ := hq
          change (0 = 0 ∧ t11 = t8) ∨ (0 = 1 ∧ t11 = 2) at q62_0
          have hw : lo_Wd X ([oX8 (d 0) t11 (d 1) (d 2) (M 3) (d 3) (M 5) (d 4) (d 5) (d 6) (M 9) (d 7) (M 11) (M 12) (M 13) (M 14) (M 15) (M 16) (M 17) (M 18) (M 19) (M 20) (M 21) (M 22) (M 23) (M 24) (M 25) (M 26) (M 27) (M 28), arI X (d 1) 122 w, arA X (d 2) 8 (rq r q)] ++ ((rwW X r C))) A9 s9.heap H locs := hw
          refine W.eq (g2 := F0 m9 65 ls [.int (iI 0)]) rfl ?_
          refine lo_if_eq (tgt := 70) E dX8_openLoan_65 (by decide) (by omega) (fun c12 => ?_) (fun c12 => ?_)
          · skip
            refine lv_aload_n Ex Eb dX8_openLoan_70 rfl (lv_at hl 0 rfl) ?_
            refine lv_aload_n Ex Eb dX8_openLoan_71 rfl (lv_at hl 0 rfl) ?_
            refine lo_get E hK hw huRX8 1 hf9 rfl 0 rfl rfl (by decide) (v := .ref (d 1)) rfl dX8_openLoan_72 ?_
            refine lo_callVE (q0 := 0) (rest := []) E hK hw hV (kX8_remember l X kS d r q (uI M 0 t11) C (d 1) w (show 0 ≤ (M 3) ∧ (M 3) ≤ 8 by omega) (by omega)) (cwV 1 E.2.2.2.2 gX8_openLoan_X8_remember rfl rfl rfl (by decide +kernel) ⟨Nat.le_of_ble_eq_true rfl, Nat.le_of_ble_eq_true rfl⟩) rfl rfl [0, 1, 2, 3, 4, 5, 6, 7, 8, 9, 10] rfl (by decide) hl.1 rfl rfl (Nat.le_of_ble_eq_true rfl) dX8_openLoan_75 ⟨Nat.le_of_ble_eq_true rfl, Nat.le_of_ble_eq_true rfl⟩ (fun v w1 H locs hq hw => ?_)
            obtain ⟨rfl, rfl⟩ := hq
            have hw : lo_Wd X ([oX8 (d 0) t11 (d 1) (d 2) (min ((M 3) + 1) 8) (d 3) (M 5) (d 4) (d 5) (d 6) (M 9) (d 7) (M 11) (M 12) (M 13) (M 14) (M 15) (M 16) (M 17) (M 18) (M 19) (M 20) (M 21) (M 22) (M 23) (M 24) (M 25) (M 26) (M 27) (M 28), arI X (d 1) 122 w, arA X (d 2) 8 (rq r (rmQ q (M 3)))] ++ ((rwW X r (rmC C q (M 3) w)))) A9 s9.heap H locs := hw
            refine W.eq (g2 := F0 m9 78 ls []) rfl ?_
            refine lv_aload_n Ex Eb dX8_openLoan_78 rfl (lv_at hl 0 rfl) ?_
            refine lv_iload_n Ex Eb dX8_openLoan_79 rfl (lv_at hl 1 rfl) ?_
            refine lv_iload_n Ex Eb dX8_openLoan_80 rfl (lv_at hl 2 rfl) ?_
            refine lv_iload_n Ex Eb dX8_openLoan_81 rfl (lv_at hl 3 rfl) ?_
            refine lo_callV (q0 := 0) (rest := []) E hK hw (kX8_makeLoan l X d (uI (uI M 0 t11) 3 (min ((M 3) + 1) 8)) w a b m (hWI) (by omega) (by omega) (by omega) (by omega)) (cwV 3 E.2.2.2.2 gX8_openLoan_X8_makeLoan rfl rfl rfl (by decide +kernel) ⟨Nat.le_of_ble_eq_true rfl, Nat.le_of_ble_eq_true rfl⟩) rfl rfl [0, 1] rfl (by decide) hl.1 rfl rfl (Nat.le_of_ble_eq_true rfl) dX8_openLoan_82 ⟨Nat.le_of_ble_eq_true rfl, Nat.le_of_ble_eq_true rfl⟩ (fun v w1 H locs hq hw => ?_)
            obtain ⟨N13, q82_0, rfl, rfl⟩ := hq
            have hw : lo_Wd X ([oX8 (d 0) (N13 0) (d 1) (d 2) (N13 3) (d 3) (N13 5) (d 4) (d 5) (d 6) (N13 9) (d 7) (N13 11) (N13 12) (N13 13) (N13 14) (N13 15) (N13 16) (N13 17) (N13 18) (N13 19) (N13 20) (N13 21) (N13 22) (N13 23) (N13 24) (N13 25) (N13 26) (N13 27) (N13 28), arI X (d 1) 122 (wNew w a b m), arA X (d 2) 8 (rq r (rmQ q (M 3)))] ++ ((rwW X r (rmC C q (M 3) w)))) A9 s9.heap H locs := hw
            refine W.eq (g2 := F0 m9 85 ls [.int (iI (w 0))]) rfl ?_
            exact lo_iret E hRt hLk hK hAe hw dX8_openLoan_85 rfl ⟨N13, wNew w a b m, rmQ q (M 3), rmC C q (M 3) w, w 0, (fun k h0 h3 hk h8 => by first | (simp [uI, h0, h3, q82_0 k hk]; done) | (simp [uI, h0, h3]; done)), (by first | (exfalso; omega) | (exact Or.inl ⟨(by first | (simp [uI, q82_0 0 (by omega)] <;> omega) | (omega)), by omega, rfl, rfl, (by first | (simp [uI, q82_0 3 (by omega)] <;> omega) | (omega)), rfl, rfl⟩) | (exact Or.inr (Or.inl ⟨(by first | (simp [uI] <;> omega) | (omega)), by omega, rfl, rfl, (by first | (simp [uI] <;> omega) | (omega)), rfl, rfl⟩)) | (exact Or.inr (Or.inr (⟨(by first | (simp [uI] <;> omega) | (omega)), by omega, rfl, rfl, (by first | (simp [uI] <;> omega) | (omega)), rfl, rfl⟩)))), rfl, rfl⟩
          · skip
            refine lv_iconst (v := iI 0) Ex Eb dX8_openLoan_68 rfl ?_
            exact lo_iret E hRt hLk hK hAe hw dX8_openLoan_69 rfl ⟨uI M 0 t11, w, q, C, 0, (fun k h0 h3 hk h8 => by first | (simp [uI, h0, h3, q82_0 k hk]; done) | (simp [uI, h0, h3]; done)), (by first | (exfalso; omega) | (exact Or.inl ⟨(by first | (simp [uI, q82_0 0 (by omega)] <;> omega) | (omega)), by omega, rfl, rfl, (by first | (simp [uI, q82_0 3 (by omega)] <;> omega) | (omega)), rfl, rfl⟩) | (exact Or.inr (Or.inl ⟨(by first | (simp [uI] <;> omega) | (omega)), by omega, rfl, rfl, (by first | (simp [uI] <;> omega) | (omega)), rfl, rfl⟩)) | (exact Or.inr (Or.inr (⟨(by first | (simp [uI] <;> omega) | (omega)), by omega, rfl, rfl, (by first | (simp [uI] <;> omega) | (omega)), rfl, rfl⟩)))), rfl, rfl⟩
        · skip
          refine lv_iconst (v := iI 1) Ex Eb dX8_openLoan_56 rfl ?_
          refine lv_goto (tgt := 61) Ex Eb dX8_openLoan_57 (by decide) ?_
          refine lv_iconst (v := iI 2) Ex Eb dX8_openLoan_61 rfl ?_
          refine lo_callV (q0 := 0) (rest := []) E hK hw (kX8_raise l X d (uI M 0 t8) 1 2 (by omega)) (cwV 2 E.2.2.2.2 gX8_openLoan_X8_raise rfl rfl rfl (by decide +kernel) ⟨Nat.le_of_ble_eq_true rfl, Nat.le_of_ble_eq_true rfl⟩) rfl rfl [0] rfl (by decide) hl.1 rfl rfl (Nat.le_of_ble_eq_true rfl) dX8_openLoan_62 ⟨Nat.le_of_ble_eq_true rfl, Nat.le_of_ble_eq_true rfl⟩ (fun v w1 H locs hq hw => ?_)
          obtain ⟨t14, q62_0, rfl, rfl⟩ := hq
          change (1 = 0 ∧ t14 = t8) ∨ (1 = 1 ∧ t14 = 2) at q62_0
          have hw : lo_Wd X ([oX8 (d 0) t14 (d 1) (d 2) (M 3) (d 3) (M 5) (d 4) (d 5) (d 6) (M 9) (d 7) (M 11) (M 12) (M 13) (M 14) (M 15) (M 16) (M 17) (M 18) (M 19) (M 20) (M 21) (M 22) (M 23) (M 24) (M 25) (M 26) (M 27) (M 28), arI X (d 1) 122 w, arA X (d 2) 8 (rq r q)] ++ ((rwW X r C))) A9 s9.heap H locs := hw
          refine W.eq (g2 := F0 m9 65 ls [.int (iI 1)]) rfl ?_
          refine lo_if_eq (tgt := 70) E dX8_openLoan_65 (by decide) (by omega) (fun c15 => ?_) (fun c15 => ?_)
          · skip
            refine lv_aload_n Ex Eb dX8_openLoan_70 rfl (lv_at hl 0 rfl) ?_
            refine lv_aload_n Ex Eb dX8_openLoan_71 rfl (lv_at hl 0 rfl) ?_
            refine lo_get E hK hw huRX8 1 hf9 rfl 0 rfl rfl (by decide) (v := .ref (d 1)) rfl dX8_openLoan_72 ?_
            refine lo_callVE (q0 := 0) (rest := []) E hK hw hV (kX8_remember l X kS d r q (uI M 0 t14) C (d 1) w (show 0 ≤ (M 3) ∧ (M 3) ≤ 8 by omega) (by omega)) (cwV 1 E.2.2.2.2 gX8_openLoan_X8_remember rfl rfl rfl (by decide +kernel) ⟨Nat.le_of_ble_eq_true rfl, Nat.le_of_ble_eq_true rfl⟩) rfl rfl [0, 1, 2, 3, 4, 5, 6, 7, 8, 9, 10] rfl (by decide) hl.1 rfl rfl (Nat.le_of_ble_eq_true rfl) dX8_openLoan_75 ⟨Nat.le_of_ble_eq_true rfl, Nat.le_of_ble_eq_true rfl⟩ (fun v w1 H locs hq hw => ?_)
            obtain ⟨rfl, rfl⟩ := hq
            have hw : lo_Wd X ([oX8 (d 0) t14 (d 1) (d 2) (min ((M 3) + 1) 8) (d 3) (M 5) (d 4) (d 5) (d 6) (M 9) (d 7) (M 11) (M 12) (M 13) (M 14) (M 15) (M 16) (M 17) (M 18) (M 19) (M 20) (M 21) (M 22) (M 23) (M 24) (M 25) (M 26) (M 27) (M 28), arI X (d 1) 122 w, arA X (d 2) 8 (rq r (rmQ q (M 3)))] ++ ((rwW X r (rmC C q (M 3) w)))) A9 s9.heap H locs := hw
            refine W.eq (g2 := F0 m9 78 ls []) rfl ?_
            refine lv_aload_n Ex Eb dX8_openLoan_78 rfl (lv_at hl 0 rfl) ?_
            refine lv_iload_n Ex Eb dX8_openLoan_79 rfl (lv_at hl 1 rfl) ?_
            refine lv_iload_n Ex Eb dX8_openLoan_80 rfl (lv_at hl 2 rfl) ?_
            refine lv_iload_n Ex Eb dX8_openLoan_81 rfl (lv_at hl 3 rfl) ?_
            refine lo_callV (q0 := 0) (rest := []) E hK hw (kX8_makeLoan l X d (uI (uI M 0 t14) 3 (min ((M 3) + 1) 8)) w a b m (hWI) (by omega) (by omega) (by omega) (by omega)) (cwV 3 E.2.2.2.2 gX8_openLoan_X8_makeLoan rfl rfl rfl (by decide +kernel) ⟨Nat.le_of_ble_eq_true rfl, Nat.le_of_ble_eq_true rfl⟩) rfl rfl [0, 1] rfl (by decide) hl.1 rfl rfl (Nat.le_of_ble_eq_true rfl) dX8_openLoan_82 ⟨Nat.le_of_ble_eq_true rfl, Nat.le_of_ble_eq_true rfl⟩ (fun v w1 H locs hq hw => ?_)
            obtain ⟨N16, q82_0, rfl, rfl⟩ := hq
            have hw : lo_Wd X ([oX8 (d 0) (N16 0) (d 1) (d 2) (N16 3) (d 3) (N16 5) (d 4) (d 5) (d 6) (N16 9) (d 7) (N16 11) (N16 12) (N16 13) (N16 14) (N16 15) (N16 16) (N16 17) (N16 18) (N16 19) (N16 20) (N16 21) (N16 22) (N16 23) (N16 24) (N16 25) (N16 26) (N16 27) (N16 28), arI X (d 1) 122 (wNew w a b m), arA X (d 2) 8 (rq r (rmQ q (M 3)))] ++ ((rwW X r (rmC C q (M 3) w)))) A9 s9.heap H locs := hw
            refine W.eq (g2 := F0 m9 85 ls [.int (iI (w 0))]) rfl ?_
            exact lo_iret E hRt hLk hK hAe hw dX8_openLoan_85 rfl ⟨N16, wNew w a b m, rmQ q (M 3), rmC C q (M 3) w, w 0, (fun k h0 h3 hk h8 => by first | (simp [uI, h0, h3, q82_0 k hk]; done) | (simp [uI, h0, h3]; done)), (by first | (exfalso; omega) | (exact Or.inl ⟨(by first | (simp [uI, q82_0 0 (by omega)] <;> omega) | (omega)), by omega, rfl, rfl, (by first | (simp [uI, q82_0 3 (by omega)] <;> omega) | (omega)), rfl, rfl⟩) | (exact Or.inr (Or.inl ⟨(by first | (simp [uI] <;> omega) | (omega)), by omega, rfl, rfl, (by first | (simp [uI] <;> omega) | (omega)), rfl, rfl⟩)) | (exact Or.inr (Or.inr (⟨(by first | (simp [uI] <;> omega) | (omega)), by omega, rfl, rfl, (by first | (simp [uI] <;> omega) | (omega)), rfl, rfl⟩)))), rfl, rfl⟩
          · skip
            refine lv_iconst (v := iI 0) Ex Eb dX8_openLoan_68 rfl ?_
            exact lo_iret E hRt hLk hK hAe hw dX8_openLoan_69 rfl ⟨uI M 0 t14, w, q, C, 0, (fun k h0 h3 hk h8 => by first | (simp [uI, h0, h3, q82_0 k hk]; done) | (simp [uI, h0, h3]; done)), (by first | (exfalso; omega) | (exact Or.inl ⟨(by first | (simp [uI, q82_0 0 (by omega)] <;> omega) | (omega)), by omega, rfl, rfl, (by first | (simp [uI, q82_0 3 (by omega)] <;> omega) | (omega)), rfl, rfl⟩) | (exact Or.inr (Or.inl ⟨(by first | (simp [uI] <;> omega) | (omega)), by omega, rfl, rfl, (by first | (simp [uI] <;> omega) | (omega)), rfl, rfl⟩)) | (exact Or.inr (Or.inr (⟨(by first | (simp [uI] <;> omega) | (omega)), by omega, rfl, rfl, (by first | (simp [uI] <;> omega) | (omega)), rfl, rfl⟩)))), rfl, rfl⟩
      · skip
        refine lv_iconst (v := iI 0) Ex Eb dX8_openLoan_42 rfl ?_
        exact lo_iret E hRt hLk hK hAe hw dX8_openLoan_43 rfl ⟨uI M 0 t8, w, q, C, 0, (fun k h0 h3 hk h8 => by first | (simp [uI, h0, h3, q82_0 k hk]; done) | (simp [uI, h0, h3]; done)), (by first | (exfalso; omega) | (exact Or.inl ⟨(by first | (simp [uI, q82_0 0 (by omega)] <;> omega) | (omega)), by omega, rfl, rfl, (by first | (simp [uI, q82_0 3 (by omega)] <;> omega) | (omega)), rfl, rfl⟩) | (exact Or.inr (Or.inl ⟨(by first | (simp [uI] <;> omega) | (omega)), by omega, rfl, rfl, (by first | (simp [uI] <;> omega) | (omega)), rfl, rfl⟩)) | (exact Or.inr (Or.inr (⟨(by first | (simp [uI] <;> omega) | (omega)), by omega, rfl, rfl, (by first | (simp [uI] <;> omega) | (omega)), rfl, rfl⟩)))), rfl, rfl⟩
set_option maxHeartbeats 4000000 in
set_option maxRecDepth 100000 in
theorem kX8_spendExtra (l : Launch) (X : KX) (kS : Nat → Nat) (d r q : Nat → Nat) (M : Nat → Int) (C : Nat → Nat → Int) (w : Nat → Int) (a : Int) (hpc : 0 ≤ M 3 ∧ M 3 ≤ 8) (hq : ∀ j, j < 8 → q j < 8) (hWI : WI w) (ha9 : i32 a) : CE l X kS yX8_spendExtra wsX8_spendExtra ({ frames := 6, cells := 0, slots := 0, locals := 151 }) [.ref (d 0), .int (iI a)] ([oX8 (d 0) (M 0) (d 1) (d 2) (M 3) (d 3) (M 5) (d 4) (d 5) (d 6) (M 9) (d 7) (M 11) (M 12) (M 13) (M 14) (M 15) (M 16) (M 17) (M 18) (M 19) (M 20) (M 21) (M 22) (M 23) (M 24) (M 25) (M 26) (M 27) (M 28), arI X (d 1) 122 w, arA X (d 2) 8 (rq r q)] ++ ((rwW X r C))) (fun v9 w9 => ∃ N : Nat → Int, ∃ u : Nat → Int, ∃ p : Nat → Nat, ∃ K : Nat → Nat → Int, ∃ z : Int, (sameQ M N) ∧ ((N 0 = 0 ∧ (1 ≤ a ∧ a ≤ 9999999) ∧ u = wspF 1 6 w a ∧ z = a - wlfF 1 6 w a ∧ N 3 = min (M 3 + 1) 8 ∧ p = rmQ q (M 3) ∧ K = rmC C q (M 3) w) ∨ (N 0 = 1 ∧ ¬ (1 ≤ a ∧ a ≤ 9999999) ∧ u = w ∧ z = 0 ∧ N 3 = M 3 ∧ p = q ∧ K = C)) ∧ v9 = some (.int (iI z)) ∧ w9 = [oX8 (d 0) (N 0) (d 1) (d 2) (N 3) (d 3) (N 5) (d 4) (d 5) (d 6) (N 9) (d 7) (N 11) (N 12) (N 13) (N 14) (N 15) (N 16) (N 17) (N 18) (N 19) (N 20) (N 21) (N 22) (N 23) (N 24) (N 25) (N 26) (N 27) (N 28), arI X (d 1) 122 u, arA X (d 2) 8 (rq r p)] ++ ((rwW X r K))) 0 0 := by
  refine lo_enterE (cc := cX8_spendExtra) (maxL := 5) (ret := (some .int)) (lv := [(0, .ref (d 0)), (1, .int (iI a))]) (by decide) rfl rfl (Nat.le_of_ble_eq_true rfl) ?_
  intro p9 e9 s9 m9 bl9 me9 c9 A9 ls hAe E hRt hLk hK hl hw hV
  have Ex := E.1
  have Eb := E.2.1
  have huRX8 : ∀ w ∈ u_ws RX8 TX8 29, w ∈ wsX8_spendExtra := by decide +kernel
  have hf56 : (Cond.fieldLink RX8 56 "LoanScheduleModel" "thrown" "I").before _ s9 = true := E.2.2.2.2 _ (List.mem_of_getElem? (i := 1) rfl)
  have hc154 : (Cond.constant RX8 154 (9999999)).before _ s9 = true := E.2.2.2.2 _ (List.mem_of_getElem? (i := 2) rfl)
  have hf9 : (Cond.fieldLink RX8 9 "LoanScheduleModel" "w" "[I").before _ s9 = true := E.2.2.2.2 _ (List.mem_of_getElem? (i := 3) rfl)
  obtain ⟨⟨hn0, hn1⟩, ⟨hb0, hb1⟩, hL⟩ := id hWI
  refine lv_aload_n Ex Eb dX8_spendExtra_0 rfl (lv_at hl 0 rfl) ?_
  refine lv_iconst (v := iI 0) Ex Eb dX8_spendExtra_1 rfl ?_
  refine lo_put E hK hw huRX8 tyX8 tyX8_ok nmX8 0 hf56 rfl 0 rfl rfl (by decide) rfl rfl rfl rfl (Nat.le_of_ble_eq_true rfl) (ws' := [oX8 (d 0) 0 (d 1) (d 2) (M 3) (d 3) (M 5) (d 4) (d 5) (d 6) (M 9) (d 7) (M 11) (M 12) (M 13) (M 14) (M 15) (M 16) (M 17) (M 18) (M 19) (M 20) (M 21) (M 22) (M 23) (M 24) (M 25) (M 26) (M 27) (M 28), arI X (d 1) 122 w, arA X (d 2) 8 (rq r q)] ++ ((rwW X r C))) rfl dX8_spendExtra_2 (fun H locs hw => ?_)
  refine lv_aload_n Ex Eb dX8_spendExtra_5 rfl (lv_at hl 0 rfl) ?_
  refine lv_iload_n Ex Eb dX8_spendExtra_6 rfl (lv_at hl 1 rfl) ?_
  refine lv_iconst (v := iI 1) Ex Eb dX8_spendExtra_7 rfl ?_
  refine lo_ldc (z := 9999999) E hc154 dX8_spendExtra_8 rfl ?_
  refine lv_iconst (v := iI 1) Ex Eb dX8_spendExtra_10 rfl ?_
  refine lo_callV (q0 := 0) (rest := []) E hK hw (kX8_outside l X d (uI M 0 0) a 1 9999999 1 (by omega) (by omega) (by omega)) (cwV 4 E.2.2.2.2 gX8_spendExtra_X8_outside rfl rfl rfl (by decide +kernel) ⟨Nat.le_of_ble_eq_true rfl, Nat.le_of_ble_eq_true rfl⟩) rfl rfl [0] rfl (by decide) hl.1 rfl rfl (Nat.le_of_ble_eq_true rfl) dX8_spendExtra_11 ⟨Nat.le_of_ble_eq_true rfl, Nat.le_of_ble_eq_true rfl⟩ (fun v w1 H locs hq hw => ?_)
  obtain ⟨z1, tx, q11_0, rfl, rfl⟩ := hq
  change (z1 = 0 ∧ tx = 0 ∧ 1 ≤ a ∧ a ≤ 9999999) ∨ (z1 = 1 ∧ tx = 1 ∧ ¬ (1 ≤ a ∧ a ≤ 9999999)) at q11_0
  have hw : lo_Wd X ([oX8 (d 0) tx (d 1) (d 2) (M 3) (d 3) (M 5) (d 4) (d 5) (d 6) (M 9) (d 7) (M 11) (M 12) (M 13) (M 14) (M 15) (M 16) (M 17) (M 18) (M 19) (M 20) (M 21) (M 22) (M 23) (M 24) (M 25) (M 26) (M 27) (M 28), arI X (d 1) 122 w, arA X (d 2) 8 (rq r q)] ++ ((rwW X r C))) A9 s9.heap H locs := hw
  refine W.eq (g2 := F0 m9 14 ls [.int (iI z1)]) rfl ?_
  refine lo_if_eq (tgt := 19) E dX8_spendExtra_14 (by decide) (by omega) (fun c2 => ?_) (fun c2 => ?_)
  · skip
    refine lv_aload_n Ex Eb dX8_spendExtra_19 rfl (lv_at hl 0 rfl) ?_
    refine lv_aload_n Ex Eb dX8_spendExtra_20 rfl (lv_at hl 0 rfl) ?_
    refine lo_get E hK hw huRX8 1 hf9 rfl 0 rfl rfl (by decide) (v := .ref (d 1)) rfl dX8_spendExtra_21 ?_
    refine lo_callVE (q0 := 0) (rest := []) E hK hw hV (kX8_remember l X kS d r q (uI M 0 tx) C (d 1) w (hpc) (hq)) (cwV 1 E.2.2.2.2 gX8_spendExtra_X8_remember rfl rfl rfl (by decide +kernel) ⟨Nat.le_of_ble_eq_true rfl, Nat.le_of_ble_eq_true rfl⟩) rfl rfl [0, 1, 2, 3, 4, 5, 6, 7, 8, 9, 10] rfl (by decide) hl.1 rfl rfl (Nat.le_of_ble_eq_true rfl) dX8_spendExtra_24 ⟨Nat.le_of_ble_eq_true rfl, Nat.le_of_ble_eq_true rfl⟩ (fun v w1 H locs hq hw => ?_)
    obtain ⟨rfl, rfl⟩ := hq
    have hw : lo_Wd X ([oX8 (d 0) tx (d 1) (d 2) (min ((M 3) + 1) 8) (d 3) (M 5) (d 4) (d 5) (d 6) (M 9) (d 7) (M 11) (M 12) (M 13) (M 14) (M 15) (M 16) (M 17) (M 18) (M 19) (M 20) (M 21) (M 22) (M 23) (M 24) (M 25) (M 26) (M 27) (M 28), arI X (d 1) 122 w, arA X (d 2) 8 (rq r (rmQ q (M 3)))] ++ ((rwW X r (rmC C q (M 3) w)))) A9 s9.heap H locs := hw
    refine W.eq (g2 := F0 m9 27 ls []) rfl ?_
    refine lv_iload_n Ex Eb dX8_spendExtra_27 rfl (lv_at hl 1 rfl) ?_
    refine lv_istore_n (lv' := [(2, .int (iI a)), (0, .ref (d 0)), (1, .int (iI a))]) Ex Eb dX8_spendExtra_28 rfl hl (by decide) rfl (fun ls hl => ?_)
    refine lv_aload_n Ex Eb dX8_spendExtra_29 rfl (lv_at hl 1 rfl) ?_
    refine lo_callV (q0 := 0) (rest := []) E hK hw (kX8_dearest l X d (uI (uI M 0 tx) 3 (min ((M 3) + 1) 8)) w (hWI)) (cwV 0 E.2.2.2.2 gX8_spendExtra_X8_dearest rfl rfl rfl (by decide +kernel) ⟨Nat.le_of_ble_eq_true rfl, Nat.le_of_ble_eq_true rfl⟩) rfl rfl [0, 1] rfl (by decide) hl.1 rfl rfl (Nat.le_of_ble_eq_true rfl) dX8_spendExtra_30 ⟨Nat.le_of_ble_eq_true rfl, Nat.le_of_ble_eq_true rfl⟩ (fun v w1 H locs hq hw => ?_)
    obtain ⟨rfl, rfl⟩ := hq
    have hw : lo_Wd X ([oX8 (d 0) tx (d 1) (d 2) (min ((M 3) + 1) 8) (d 3) (M 5) (d 4) (d 5) (d 6) (M 9) (d 7) (M 11) (M 12) (M 13) (M 14) (M 15) (M 16) (M 17) (M 18) (M 19) (M 20) (M 21) (M 22) (M 23) (M 24) (M 25) (M 26) (M 27) (M 28), arI X (d 1) 122 w, arA X (d 2) 8 (rq r (rmQ q (M 3)))] ++ ((rwW X r (rmC C q (M 3) w)))) A9 s9.heap H locs := hw
    refine W.eq (g2 := F0 m9 33 ls [.int (iI (dst (LWf w) (w 0).toNat))]) rfl ?_
    refine lv_istore_n (lv' := [(3, .int (iI (dst (LWf w) (w 0).toNat))), (2, .int (iI a)), (0, .ref (d 0)), (1, .int (iI a))]) Ex Eb dX8_spendExtra_33 rfl hl (by decide) rfl (fun ls hl => ?_)
    have lp34 : ∀ (n : Nat) (K u : Nat → Int) (re t : Int) (fu : Nat), fu < n → (sameW (uI (uI M 0 0) 3 (min (M 3 + 1) 8)) K) → (WI u ∧ u 0 = w 0) → (t = wTg 1 u) → (0 ≤ re ∧ re ≤ 9999999) → (re ≤ 0 ∨ cnt (LWf u) (w 0).toNat ≤ fu) → (wspF 1 fu u re = wspF 1 6 w a) → (wlfF 1 fu u re = wlfF 1 6 w a) → ∀ (H : Heap) (locs : List Loc) (ls : Array Slot), lo_Wd X ([oX8 (d 0) (K 0) (d 1) (d 2) (K 3) (d 3) (K 5) (d 4) (d 5) (d 6) (K 9) (d 7) (K 11) (K 12) (K 13) (K 14) (K 15) (K 16) (K 17) (K 18) (K 19) (K 20) (K 21) (K 22) (K 23) (K 24) (K 25) (K 26) (K 27) (K 28), arI X (d 1) 122 u, arA X (d 2) 8 (rq r (rmQ q (M 3)))] ++ ((rwW X r (rmC C q (M 3) w)))) A9 s9.heap H locs → lv_has ls 5 [(0, .ref (d 0)), (1, .int (iI a)), (2, .int (iI re)), (3, .int (iI t))] → W p9 l e9 ({ frames := 6, cells := 0, slots := 0, locals := 151 } : Room) s9 m9 ([.ref (d 0), .int (iI a)] : List Value).toArray bl9 me9 c9 H locs 0 0 (MQ bl9 (lo_Qc X ([oX8 (d 0) (M 0) (d 1) (d 2) (M 3) (d 3) (M 5) (d 4) (d 5) (d 6) (M 9) (d 7) (M 11) (M 12) (M 13) (M 14) (M 15) (M 16) (M 17) (M 18) (M 19) (M 20) (M 21) (M 22) (M 23) (M 24) (M 25) (M 26) (M 27) (M 28), arI X (d 1) 122 w, arA X (d 2) 8 (rq r q)] ++ ((rwW X r C))) s9.heap.size (fun v9 w9 => ∃ N : Nat → Int, ∃ u : Nat → Int, ∃ p : Nat → Nat, ∃ K : Nat → Nat → Int, ∃ z : Int, (sameQ M N) ∧ ((N 0 = 0 ∧ (1 ≤ a ∧ a ≤ 9999999) ∧ u = wspF 1 6 w a ∧ z = a - wlfF 1 6 w a ∧ N 3 = min (M 3 + 1) 8 ∧ p = rmQ q (M 3) ∧ K = rmC C q (M 3) w) ∨ (N 0 = 1 ∧ ¬ (1 ≤ a ∧ a ≤ 9999999) ∧ u = w ∧ z = 0 ∧ N 3 = M 3 ∧ p = q ∧ K = C)) ∧ v9 = some (.int (iI z)) ∧ w9 = [oX8 (d 0) (N 0) (d 1) (d 2) (N 3) (d 3) (N 5) (d 4) (d 5) (d 6) (N 9) (d 7) (N 11) (N 12) (N 13) (N 14) (N 15) (N 16) (N 17) (N 18) (N 19) (N 20) (N 21) (N 22) (N 23) (N 24) (N 25) (N 26) (N 27) (N 28), arI X (d 1) 122 u, arA X (d 2) 8 (rq r p)] ++ ((rwW X r K)))) ([.ref (d 0), .int (iI a)] : List Value).toArray s9 0 0 A9) (F0 m9 34 ls []) := by
      intro n
      induction n with
      | zero => intro K u re t fu hn; exact absurd hn (Nat.not_lt_zero _)
      | succ n ih34 =>
        intro K u re t fu hn34 iv34_0 iv34_1 iv34_2 iv34_3 iv34_4 iv34_5 iv34_6 H locs ls hw hl
        have htr := wTg_r 1 iv34_1.1
        rw [← iv34_2] at htr
        have hu0 := iv34_1.2
        have hu1 := iv34_1.1.2.1
        refine lv_iload_n Ex Eb dX8_spendExtra_34 rfl (lv_at hl 3 rfl) ?_
        refine lv_iconst (v := iI (-1)) Ex Eb dX8_spendExtra_35 rfl ?_
        refine lo_icmp_eq (tgt := 86) E dX8_spendExtra_36 (by decide) (by omega) (by omega) (fun c3 => ?_) (fun c3 => ?_)
        · skip
          refine lv_iload_n Ex Eb dX8_spendExtra_86 rfl (lv_at hl 1 rfl) ?_
          refine lv_iload_n Ex Eb dX8_spendExtra_87 rfl (lv_at hl 2 rfl) ?_
          refine lo_isub E dX8_spendExtra_88 ?_
          exact lo_iret E hRt hLk hK hAe hw dX8_spendExtra_89 rfl ⟨K, u, rmQ q (M 3), rmC C q (M 3) w, a - re, (fun k h0 h3 hk h8 => by first | (rw [iv34_0 k hk]; simp [uI, h0, h3]; done) | (simp [uI, h0]; done)), (by first | (exfalso; omega) | exact Or.inl ⟨by rw [iv34_0 0 (by omega)]; simp [uI], by omega, (by rw [← iv34_5]; first | (rw [wspF_n (show wTg 1 u = -1 by omega)]) | (rw [wspF_e (by omega)])), (by rw [(show wlfF 1 6 w a = re by rw [← iv34_6]; first | (rw [wlfF_n (show wTg 1 u = -1 by omega)]) | (rw [wlfF_e (by omega)]))]), by rw [iv34_0 3 (by omega)]; simp [uI], rfl, rfl⟩ | exact Or.inr ⟨by simp [uI]; omega, by omega, rfl, rfl, by simp [uI], rfl, rfl⟩), rfl, rfl⟩
        · skip
          refine lv_iload_n Ex Eb dX8_spendExtra_39 rfl (lv_at hl 2 rfl) ?_
          refine lo_if_le (tgt := 86) E dX8_spendExtra_40 (by decide) (by omega) (fun c4 => ?_) (fun c4 => ?_)
          · skip
            refine lv_iload_n Ex Eb dX8_spendExtra_86 rfl (lv_at hl 1 rfl) ?_
            refine lv_iload_n Ex Eb dX8_spendExtra_87 rfl (lv_at hl 2 rfl) ?_
            refine lo_isub E dX8_spendExtra_88 ?_
            exact lo_iret E hRt hLk hK hAe hw dX8_spendExtra_89 rfl ⟨K, u, rmQ q (M 3), rmC C q (M 3) w, a - re, (fun k h0 h3 hk h8 => by first | (rw [iv34_0 k hk]; simp [uI, h0, h3]; done) | (simp [uI, h0]; done)), (by first | (exfalso; omega) | exact Or.inl ⟨by rw [iv34_0 0 (by omega)]; simp [uI], by omega, (by rw [← iv34_5]; first | (rw [wspF_n (show wTg 1 u = -1 by omega)]) | (rw [wspF_e (by omega)])), (by rw [(show wlfF 1 6 w a = re by rw [← iv34_6]; first | (rw [wlfF_n (show wTg 1 u = -1 by omega)]) | (rw [wlfF_e (by omega)]))]), by rw [iv34_0 3 (by omega)]; simp [uI], rfl, rfl⟩ | exact Or.inr ⟨by simp [uI]; omega, by omega, rfl, rfl, by simp [uI], rfl, rfl⟩), rfl, rfl⟩
          · skip
            have hLt := iv34_1.1.2.2 t (by omega) (by omega)
            have hb9 : 0 ≤ wOf u t 1 ∧ wOf u t 1 ≤ 9999999 := hLt.1
            have hc1 := cnt_1 (LWf u) t.toNat (by rw [LWf_i u (by omega)]; show 0 < wOf u t 1; omega) (w 0).toNat (by omega)
            have hWr := fun (x : Int) (h1 : 1 ≤ x) (h2 : x ≤ wOf u t 1) => wRed_WI (kp := 0) (i := t) (a := x) iv34_1.1 (by omega) (by omega) (by omega) h1 h2
            have hcd := wRed_cnt (kp := 0) (i := t) (a := wOf u t 1) iv34_1.1 (by omega) (by omega) (by omega) (by omega) (by omega) rfl
            refine lv_iload_n Ex Eb dX8_spendExtra_43 rfl (lv_at hl 2 rfl) ?_
            refine lv_aload_n Ex Eb dX8_spendExtra_44 rfl (lv_at hl 0 rfl) ?_
            refine lv_iload_n Ex Eb dX8_spendExtra_45 rfl (lv_at hl 3 rfl) ?_
            refine lv_iconst (v := iI 1) Ex Eb dX8_spendExtra_46 rfl ?_
            refine lo_callV (q0 := 0) (rest := [.int (iI re)]) E hK hw (kX8_of l X d K u t 1 (by omega) (by omega)) (cwV 2 E.2.2.2.2 gX8_spendExtra_X8_of rfl rfl rfl (by decide +kernel) ⟨Nat.le_of_ble_eq_true rfl, Nat.le_of_ble_eq_true rfl⟩) rfl rfl [0, 1] rfl (by decide) hl.1 rfl rfl (Nat.le_of_ble_eq_true rfl) dX8_spendExtra_47 ⟨Nat.le_of_ble_eq_true rfl, Nat.le_of_ble_eq_true rfl⟩ (fun v w1 H locs hq hw => ?_)
            obtain ⟨rfl, rfl⟩ := hq
            have hw : lo_Wd X ([oX8 (d 0) (K 0) (d 1) (d 2) (K 3) (d 3) (K 5) (d 4) (d 5) (d 6) (K 9) (d 7) (K 11) (K 12) (K 13) (K 14) (K 15) (K 16) (K 17) (K 18) (K 19) (K 20) (K 21) (K 22) (K 23) (K 24) (K 25) (K 26) (K 27) (K 28), arI X (d 1) 122 u, arA X (d 2) 8 (rq r (rmQ q (M 3)))] ++ ((rwW X r (rmC C q (M 3) w)))) A9 s9.heap H locs := hw
            refine W.eq (g2 := F0 m9 50 ls [.int (iI (wOf u t 1)), .int (iI re)]) rfl ?_
            refine lo_icmp_ge (tgt := 57) E dX8_spendExtra_50 (by decide) (by omega) (by omega) (fun c5 => ?_) (fun c5 => ?_)
            · skip
              refine lv_aload_n Ex Eb dX8_spendExtra_57 rfl (lv_at hl 0 rfl) ?_
              refine lv_iload_n Ex Eb dX8_spendExtra_58 rfl (lv_at hl 3 rfl) ?_
              refine lv_iconst (v := iI 1) Ex Eb dX8_spendExtra_59 rfl ?_
              refine lo_callV (q0 := 0) (rest := []) E hK hw (kX8_of l X d K u t 1 (by omega) (by omega)) (cwV 2 E.2.2.2.2 gX8_spendExtra_X8_of rfl rfl rfl (by decide +kernel) ⟨Nat.le_of_ble_eq_true rfl, Nat.le_of_ble_eq_true rfl⟩) rfl rfl [0, 1] rfl (by decide) hl.1 rfl rfl (Nat.le_of_ble_eq_true rfl) dX8_spendExtra_60 ⟨Nat.le_of_ble_eq_true rfl, Nat.le_of_ble_eq_true rfl⟩ (fun v w1 H locs hq hw => ?_)
              obtain ⟨rfl, rfl⟩ := hq
              have hw : lo_Wd X ([oX8 (d 0) (K 0) (d 1) (d 2) (K 3) (d 3) (K 5) (d 4) (d 5) (d 6) (K 9) (d 7) (K 11) (K 12) (K 13) (K 14) (K 15) (K 16) (K 17) (K 18) (K 19) (K 20) (K 21) (K 22) (K 23) (K 24) (K 25) (K 26) (K 27) (K 28), arI X (d 1) 122 u, arA X (d 2) 8 (rq r (rmQ q (M 3)))] ++ ((rwW X r (rmC C q (M 3) w)))) A9 s9.heap H locs := hw
              refine W.eq (g2 := F0 m9 63 ls [.int (iI (wOf u t 1))]) rfl ?_
              refine lv_istore (lv' := [(4, .int (iI (wOf u t 1))), (0, .ref (d 0)), (1, .int (iI a)), (2, .int (iI re)), (3, .int (iI t))]) Ex Eb dX8_spendExtra_63 hl (by decide) rfl (fun ls hl => ?_)
              refine lv_aload_n Ex Eb dX8_spendExtra_65 rfl (lv_at hl 1 rfl) ?_
              refine lv_iload_n Ex Eb dX8_spendExtra_66 rfl (lv_at hl 4 rfl) ?_
              refine lv_iload Ex Eb dX8_spendExtra_67 (lv_at hl 0 rfl) ?_
              refine lv_iconst (v := iI 0) Ex Eb dX8_spendExtra_69 rfl ?_
              refine lo_callV (q0 := 0) (rest := []) E hK hw (kX8_extra l X d K u t (wOf u t 1) 0 (by omega) (hLt) (by omega) (by omega) (by omega) (by omega)) (cwV 3 E.2.2.2.2 gX8_spendExtra_X8_extra rfl rfl rfl (by decide +kernel) ⟨Nat.le_of_ble_eq_true rfl, Nat.le_of_ble_eq_true rfl⟩) rfl rfl [0, 1] rfl (by decide) hl.1 rfl rfl (Nat.le_of_ble_eq_true rfl) dX8_spendExtra_70 ⟨Nat.le_of_ble_eq_true rfl, Nat.le_of_ble_eq_true rfl⟩ (fun v w1 H locs hq hw => ?_)
              obtain ⟨N6, q70_0, rfl, rfl⟩ := hq
              have hw : lo_Wd X ([oX8 (d 0) (N6 0) (d 1) (d 2) (N6 3) (d 3) (N6 5) (d 4) (d 5) (d 6) (N6 9) (d 7) (N6 11) (N6 12) (N6 13) (N6 14) (N6 15) (N6 16) (N6 17) (N6 18) (N6 19) (N6 20) (N6 21) (N6 22) (N6 23) (N6 24) (N6 25) (N6 26) (N6 27) (N6 28), arI X (d 1) 122 (wRed u t (wOf u t 1) 0), arA X (d 2) 8 (rq r (rmQ q (M 3)))] ++ ((rwW X r (rmC C q (M 3) w)))) A9 s9.heap H locs := hw
              refine W.eq (g2 := F0 m9 73 ls []) rfl ?_
              refine lv_iload_n Ex Eb dX8_spendExtra_73 rfl (lv_at hl 3 rfl) ?_
              refine lv_iload Ex Eb dX8_spendExtra_74 (lv_at hl 0 rfl) ?_
              refine lo_isub E dX8_spendExtra_76 ?_
              refine lv_istore_n (lv' := [(2, .int (iI (re - wOf u t 1))), (4, .int (iI (wOf u t 1))), (0, .ref (d 0)), (1, .int (iI a)), (3, .int (iI t))]) Ex Eb dX8_spendExtra_77 rfl hl (by decide) rfl (fun ls hl => ?_)
              refine lv_aload_n Ex Eb dX8_spendExtra_78 rfl (lv_at hl 2 rfl) ?_
              refine lo_callV (q0 := 0) (rest := []) E hK hw (kX8_dearest l X d N6 (wRed u t (wOf u t 1) 0) ((hWr _ (by omega) (by omega)).1)) (cwV 0 E.2.2.2.2 gX8_spendExtra_X8_dearest rfl rfl rfl (by decide +kernel) ⟨Nat.le_of_ble_eq_true rfl, Nat.le_of_ble_eq_true rfl⟩) rfl rfl [0, 1] rfl (by decide) hl.1 rfl rfl (Nat.le_of_ble_eq_true rfl) dX8_spendExtra_79 ⟨Nat.le_of_ble_eq_true rfl, Nat.le_of_ble_eq_true rfl⟩ (fun v w1 H locs hq hw => ?_)
              obtain ⟨rfl, rfl⟩ := hq
              have hw : lo_Wd X ([oX8 (d 0) (N6 0) (d 1) (d 2) (N6 3) (d 3) (N6 5) (d 4) (d 5) (d 6) (N6 9) (d 7) (N6 11) (N6 12) (N6 13) (N6 14) (N6 15) (N6 16) (N6 17) (N6 18) (N6 19) (N6 20) (N6 21) (N6 22) (N6 23) (N6 24) (N6 25) (N6 26) (N6 27) (N6 28), arI X (d 1) 122 (wRed u t (wOf u t 1) 0), arA X (d 2) 8 (rq r (rmQ q (M 3)))] ++ ((rwW X r (rmC C q (M 3) w)))) A9 s9.heap H locs := hw
              refine W.eq (g2 := F0 m9 82 ls [.int (iI (dst (LWf (wRed u t (wOf u t 1) 0)) (wRed u t (wOf u t 1) 0 0).toNat))]) rfl ?_
              refine lv_istore_n (lv' := [(3, .int (iI (dst (LWf (wRed u t (wOf u t 1) 0)) (wRed u t (wOf u t 1) 0 0).toNat))), (2, .int (iI (re - wOf u t 1))), (4, .int (iI (wOf u t 1))), (0, .ref (d 0)), (1, .int (iI a))]) Ex Eb dX8_spendExtra_82 rfl hl (by decide) rfl (fun ls hl => ?_)
              refine lv_goto (tgt := 34) Ex Eb dX8_spendExtra_83 (by decide) ?_
              exact ih34 N6 (wRed u t (wOf u t 1) 0) (re - wOf u t 1) (dst (LWf (wRed u t (wOf u t 1) 0)) (wRed u t (wOf u t 1) 0 0).toNat) (fu - 1) (by omega) (iv34_0.tr q70_0) (⟨(hWr _ (by omega) (by omega)).1, (hWr _ (by omega) (by omega)).2.trans hu0⟩) (wTg_e (Or.inl ⟨rfl, rfl⟩)) (by omega) (by first | exact Or.inl (by omega) | exact Or.inr (by rw [hu0] at hcd; omega)) (by rw [← iv34_5]; exact (wspF_s (by omega) iv34_2 (by omega) (by omega) (by omega)).symm) (by rw [← iv34_6]; exact (wlfF_s (by omega) iv34_2 (by omega) (by omega) (by omega)).symm) _ _ _ hw (lv_sub hl [3, 4, 1, 0] rfl)
            · skip
              refine lv_iload_n Ex Eb dX8_spendExtra_53 rfl (lv_at hl 2 rfl) ?_
              refine lv_goto (tgt := 63) Ex Eb dX8_spendExtra_54 (by decide) ?_
              refine lv_istore (lv' := [(4, .int (iI re)), (0, .ref (d 0)), (1, .int (iI a)), (2, .int (iI re)), (3, .int (iI t))]) Ex Eb dX8_spendExtra_63 hl (by decide) rfl (fun ls hl => ?_)
              refine lv_aload_n Ex Eb dX8_spendExtra_65 rfl (lv_at hl 1 rfl) ?_
              refine lv_iload_n Ex Eb dX8_spendExtra_66 rfl (lv_at hl 4 rfl) ?_
              refine lv_iload Ex Eb dX8_spendExtra_67 (lv_at hl 0 rfl) ?_
              refine lv_iconst (v := iI 0) Ex Eb dX8_spendExtra_69 rfl ?_
              refine lo_callV (q0 := 0) (rest := []) E hK hw (kX8_extra l X d K u t re 0 (by omega) (hLt) (by omega) (by omega) (by omega) (by omega)) (cwV 3 E.2.2.2.2 gX8_spendExtra_X8_extra rfl rfl rfl (by decide +kernel) ⟨Nat.le_of_ble_eq_true rfl, Nat.le_of_ble_eq_true rfl⟩) rfl rfl [0, 1] rfl (by decide) hl.1 rfl rfl (Nat.le_of_ble_eq_true rfl) dX8_spendExtra_70 ⟨Nat.le_of_ble_eq_true rfl, Nat.le_of_ble_eq_true rfl⟩ (fun v w1 H locs hq hw => ?_)
              obtain ⟨N7, q70_0, rfl, rfl⟩ := hq
              have hw : lo_Wd X ([oX8 (d 0) (N7 0) (d 1) (d 2) (N7 3) (d 3) (N7 5) (d 4) (d 5) (d 6) (N7 9) (d 7) (N7 11) (N7 12) (N7 13) (N7 14) (N7 15) (N7 16) (N7 17) (N7 18) (N7 19) (N7 20) (N7 21) (N7 22) (N7 23) (N7 24) (N7 25) (N7 26) (N7 27) (N7 28), arI X (d 1) 122 (wRed u t re 0), arA X (d 2) 8 (rq r (rmQ q (M 3)))] ++ ((rwW X r (rmC C q (M 3) w)))) A9 s9.heap H locs := hw
              refine W.eq (g2 := F0 m9 73 ls []) rfl ?_
              refine lv_iload_n Ex Eb dX8_spendExtra_73 rfl (lv_at hl 3 rfl) ?_
              refine lv_iload Ex Eb dX8_spendExtra_74 (lv_at hl 0 rfl) ?_
              refine lo_isub E dX8_spendExtra_76 ?_
              refine lv_istore_n (lv' := [(2, .int (iI (re - re))), (4, .int (iI re)), (0, .ref (d 0)), (1, .int (iI a)), (3, .int (iI t))]) Ex Eb dX8_spendExtra_77 rfl hl (by decide) rfl (fun ls hl => ?_)
              refine lv_aload_n Ex Eb dX8_spendExtra_78 rfl (lv_at hl 2 rfl) ?_
              refine lo_callV (q0 := 0) (rest := []) E hK hw (kX8_dearest l X d N7 (wRed u t re 0) ((hWr _ (by omega) (by omega)).1)) (cwV 0 E.2.2.2.2 gX8_spendExtra_X8_dearest rfl rfl rfl (by decide +kernel) ⟨Nat.le_of_ble_eq_true rfl, Nat.le_of_ble_eq_true rfl⟩) rfl rfl [0, 1] rfl (by decide) hl.1 rfl rfl (Nat.le_of_ble_eq_true rfl) dX8_spendExtra_79 ⟨Nat.le_of_ble_eq_true rfl, Nat.le_of_ble_eq_true rfl⟩ (fun v w1 H locs hq hw => ?_)
              obtain ⟨rfl, rfl⟩ := hq
              have hw : lo_Wd X ([oX8 (d 0) (N7 0) (d 1) (d 2) (N7 3) (d 3) (N7 5) (d 4) (d 5) (d 6) (N7 9) (d 7) (N7 11) (N7 12) (N7 13) (N7 14) (N7 15) (N7 16) (N7 17) (N7 18) (N7 19) (N7 20) (N7 21) (N7 22) (N7 23) (N7 24) (N7 25) (N7 26) (N7 27) (N7 28), arI X (d 1) 122 (wRed u t re 0), arA X (d 2) 8 (rq r (rmQ q (M 3)))] ++ ((rwW X r (rmC C q (M 3) w)))) A9 s9.heap H locs := hw
              refine W.eq (g2 := F0 m9 82 ls [.int (iI (dst (LWf (wRed u t re 0)) (wRed u t re 0 0).toNat))]) rfl ?_
              refine lv_istore_n (lv' := [(3, .int (iI (dst (LWf (wRed u t re 0)) (wRed u t re 0 0).toNat))), (2, .int (iI (re - re))), (4, .int (iI re)), (0, .ref (d 0)), (1, .int (iI a))]) Ex Eb dX8_spendExtra_82 rfl hl (by decide) rfl (fun ls hl => ?_)
              refine lv_goto (tgt := 34) Ex Eb dX8_spendExtra_83 (by decide) ?_
              exact ih34 N7 (wRed u t re 0) (re - re) (dst (LWf (wRed u t re 0)) (wRed u t re 0 0).toNat) (fu - 1) (by omega) (iv34_0.tr q70_0) (⟨(hWr _ (by omega) (by omega)).1, (hWr _ (by omega) (by omega)).2.trans hu0⟩) (wTg_e (Or.inl ⟨rfl, rfl⟩)) (by omega) (by first | exact Or.inl (by omega) | exact Or.inr (by rw [hu0] at hcd; omega)) (by rw [← iv34_5]; exact (wspF_s (by omega) iv34_2 (by omega) (by omega) (by omega)).symm) (by rw [← iv34_6]; exact (wlfF_s (by omega) iv34_2 (by omega) (by omega) (by omega)).symm) _ _ _ hw (lv_sub hl [3, 4, 1, 0] rfl)
    exact lp34 _ (uI (uI M 0 tx) 3 (min ((M 3) + 1) 8)) w a (dst (LWf w) (w 0).toNat) 6 (Nat.lt_succ_self _) (by rw [show tx = 0 by omega]; exact sameW.rf) (⟨hWI, rfl⟩) (wTg_e (Or.inl ⟨rfl, rfl⟩)) (by omega) (Or.inr (by have := cnt_m (LWf w) (w 0).toNat; omega)) (rfl) (rfl) _ _ _ hw (lv_sub hl [2, 3, 1, 0] rfl)
  · skip
    refine lv_iconst (v := iI 0) Ex Eb dX8_spendExtra_17 rfl ?_
    exact lo_iret E hRt hLk hK hAe hw dX8_spendExtra_18 rfl ⟨uI M 0 tx, w, q, C, 0, (fun k h0 h3 hk h8 => by first | (rw [iv34_0 k hk]; simp [uI, h0, h3]; done) | (simp [uI, h0]; done)), (by first | (exfalso; omega) | exact Or.inl ⟨by rw [iv34_0 0 (by omega)]; simp [uI], by omega, (by rw [← iv34_5]; first | (rw [wspF_n (show wTg 1 u = -1 by omega)]) | (rw [wspF_e (by omega)])), (by rw [(show wlfF 1 6 w a = re by rw [← iv34_6]; first | (rw [wlfF_n (show wTg 1 u = -1 by omega)]) | (rw [wlfF_e (by omega)]))]), by rw [iv34_0 3 (by omega)]; simp [uI], rfl, rfl⟩ | exact Or.inr ⟨by simp [uI]; omega, by omega, rfl, rfl, by simp [uI], rfl, rfl⟩), rfl, rfl⟩
