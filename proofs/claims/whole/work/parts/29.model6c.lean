set_option maxHeartbeats 4000000 in
set_option maxRecDepth 100000 in
theorem kX8_installmentFor (l : Launch) (X : KX) (d : Nat → Nat) (M w : Nat → Int) (i a : Int) (hWI : WI w) (hi : i32 i) (ha : i32 a) : CM l X yX8_installmentFor wsX8_installmentFor ({ frames := 4, cells := 0, slots := 0, locals := 107 }) [.ref (d 0), .int (iI i), .int (iI a)] ([oX8 (d 0) (M 0) (d 1) (d 2) (M 3) (d 3) (M 5) (d 4) (d 5) (d 6) (M 9) (d 7) (M 11) (M 12) (M 13) (M 14) (M 15) (M 16) (M 17) (M 18) (M 19) (M 20) (M 21) (M 22) (M 23) (M 24) (M 25) (M 26) (M 27) (M 28), arI X (d 1) 122 w]) (fun v9 w9 => ∃ N : Nat → Int, ∃ r : Int, (sameP M N) ∧ ((N 0 = 0 ∧ (0 ≤ i ∧ i < w 0) ∧ (1 ≤ a ∧ a ≤ 120) ∧ ((0 < wOf w i 1 ∧ r = lvl (wOf w i 1) (wOf w i 2) (wOf w i 5) a) ∨ (wOf w i 1 ≤ 0 ∧ r = 0))) ∨ (N 0 = 1 ∧ ¬ (0 ≤ i ∧ i < w 0)) ∨ (N 0 = 2 ∧ (0 ≤ i ∧ i < w 0) ∧ ¬ (1 ≤ a ∧ a ≤ 120))) ∧ v9 = some (.int (iI r)) ∧ w9 = [oX8 (d 0) (N 0) (d 1) (d 2) (N 3) (d 3) (N 5) (d 4) (d 5) (d 6) (N 9) (d 7) (N 11) (N 12) (N 13) (N 14) (N 15) (N 16) (N 17) (N 18) (N 19) (N 20) (N 21) (N 22) (N 23) (N 24) (N 25) (N 26) (N 27) (N 28), arI X (d 1) 122 w]) 0 0 := by
  refine lo_enter (cc := cX8_installmentFor) (maxL := 3) (ret := (some .int)) (lv := [(0, .ref (d 0)), (1, .int (iI i)), (2, .int (iI a))]) (by decide) rfl rfl (Nat.le_of_ble_eq_true rfl) ?_
  intro p9 e9 s9 m9 bl9 me9 c9 A9 ls hAe E hRt hLk hK hl hw
  have Ex := E.1
  have Eb := E.2.1
  have huRX8 : ∀ w ∈ u_ws RX8 TX8 29, w ∈ wsX8_installmentFor := by decide +kernel
  have hf56 : (Cond.fieldLink RX8 56 "LoanScheduleModel" "thrown" "I").before _ s9 = true := E.2.2.2.2 _ (List.mem_of_getElem? (i := 1) rfl)
  obtain ⟨⟨hn0, hn1⟩, ⟨hb0, hb1⟩, hL⟩ := id hWI
  refine lv_aload_n Ex Eb dX8_installmentFor_0 rfl (lv_at hl 0 rfl) ?_
  refine lv_iconst (v := iI 0) Ex Eb dX8_installmentFor_1 rfl ?_
  refine lo_put E hK hw huRX8 tyX8 tyX8_ok nmX8 0 hf56 rfl 0 rfl rfl (by decide) rfl rfl rfl rfl (Nat.le_of_ble_eq_true rfl) (ws' := [oX8 (d 0) 0 (d 1) (d 2) (M 3) (d 3) (M 5) (d 4) (d 5) (d 6) (M 9) (d 7) (M 11) (M 12) (M 13) (M 14) (M 15) (M 16) (M 17) (M 18) (M 19) (M 20) (M 21) (M 22) (M 23) (M 24) (M 25) (M 26) (M 27) (M 28), arI X (d 1) 122 w]) rfl dX8_installmentFor_2 (fun H locs hw => ?_)
  refine lv_aload_n Ex Eb dX8_installmentFor_5 rfl (lv_at hl 0 rfl) ?_
  refine lv_iload_n Ex Eb dX8_installmentFor_6 rfl (lv_at hl 1 rfl) ?_
  refine lo_callV (q0 := 0) (rest := []) E hK hw (kX8_noLoan l X d (uI M 0 0) w i (hWI) (by omega)) (cwV 1 E.2.2.2.2 gX8_installmentFor_X8_noLoan rfl rfl rfl (by decide +kernel) ⟨Nat.le_of_ble_eq_true rfl, Nat.le_of_ble_eq_true rfl⟩) rfl rfl [0, 1] rfl (by decide) hl.1 rfl rfl (Nat.le_of_ble_eq_true rfl) dX8_installmentFor_7 ⟨Nat.le_of_ble_eq_true rfl, Nat.le_of_ble_eq_true rfl⟩ (fun v w1 H locs hq hw => ?_)
  obtain ⟨z1, t2, q7_0, rfl, rfl⟩ := hq
  change (z1 = 0 ∧ t2 = 0 ∧ 0 ≤ i ∧ i < w 0) ∨ (z1 = 1 ∧ t2 = 1 ∧ ¬ (0 ≤ i ∧ i < w 0)) at q7_0
  have hw : lo_Wd X ([oX8 (d 0) t2 (d 1) (d 2) (M 3) (d 3) (M 5) (d 4) (d 5) (d 6) (M 9) (d 7) (M 11) (M 12) (M 13) (M 14) (M 15) (M 16) (M 17) (M 18) (M 19) (M 20) (M 21) (M 22) (M 23) (M 24) (M 25) (M 26) (M 27) (M 28), arI X (d 1) 122 w]) A9 s9.heap H locs := hw
  refine W.eq (g2 := F0 m9 10 ls [.int (iI z1)]) rfl ?_
  refine lo_if_ne (tgt := 33) E dX8_installmentFor_10 (by decide) (by omega) (fun c3 => ?_) (fun c3 => ?_)
  · skip
    refine lv_iconst (v := iI 0) Ex Eb dX8_installmentFor_33 rfl ?_
    exact lo_iret E hRt hLk hK hAe hw dX8_installmentFor_34 rfl ⟨uI M 0 t2, 0, (by first | exact sameP_t | exact sameP_t.tr (sameP_t) | exact sameP_w q44_0 | exact sameP_t.tr (sameP_w q44_0) | exact sameP_t.tr (sameP_t.tr (sameP_s q44_0))), (by first | (have h0 := (sameW_0 q44_0).trans uI_s; omega) | (simp only [uI_s, and_true]; omega) | omega), rfl, rfl⟩
  · skip
    refine lv_aload_n Ex Eb dX8_installmentFor_13 rfl (lv_at hl 0 rfl) ?_
    refine lv_iload_n Ex Eb dX8_installmentFor_14 rfl (lv_at hl 2 rfl) ?_
    refine lv_iconst (v := iI 1) Ex Eb dX8_installmentFor_15 rfl ?_
    refine lv_bipush (v := iI 120) Ex Eb dX8_installmentFor_16 rfl ?_
    refine lv_iconst (v := iI 2) Ex Eb dX8_installmentFor_18 rfl ?_
    refine lo_callV (q0 := 0) (rest := []) E hK hw (kX8_outside l X d (uI M 0 t2) a 1 120 2 (by omega) (by omega) (by omega)) (cwV 4 E.2.2.2.2 gX8_installmentFor_X8_outside rfl rfl rfl (by decide +kernel) ⟨Nat.le_of_ble_eq_true rfl, Nat.le_of_ble_eq_true rfl⟩) rfl rfl [0] rfl (by decide) hl.1 rfl rfl (Nat.le_of_ble_eq_true rfl) dX8_installmentFor_19 ⟨Nat.le_of_ble_eq_true rfl, Nat.le_of_ble_eq_true rfl⟩ (fun v w1 H locs hq hw => ?_)
    obtain ⟨z4, t5, q19_0, rfl, rfl⟩ := hq
    change (z4 = 0 ∧ t5 = t2 ∧ 1 ≤ a ∧ a ≤ 120) ∨ (z4 = 1 ∧ t5 = 2 ∧ ¬ (1 ≤ a ∧ a ≤ 120)) at q19_0
    have hw : lo_Wd X ([oX8 (d 0) t5 (d 1) (d 2) (M 3) (d 3) (M 5) (d 4) (d 5) (d 6) (M 9) (d 7) (M 11) (M 12) (M 13) (M 14) (M 15) (M 16) (M 17) (M 18) (M 19) (M 20) (M 21) (M 22) (M 23) (M 24) (M 25) (M 26) (M 27) (M 28), arI X (d 1) 122 w]) A9 s9.heap H locs := hw
    refine W.eq (g2 := F0 m9 22 ls [.int (iI z4)]) rfl ?_
    refine lo_if_ne (tgt := 33) E dX8_installmentFor_22 (by decide) (by omega) (fun c6 => ?_) (fun c6 => ?_)
    · skip
      refine lv_iconst (v := iI 0) Ex Eb dX8_installmentFor_33 rfl ?_
      exact lo_iret E hRt hLk hK hAe hw dX8_installmentFor_34 rfl ⟨uI M 0 t5, 0, (by first | exact sameP_t | exact sameP_t.tr (sameP_t) | exact sameP_w q44_0 | exact sameP_t.tr (sameP_w q44_0) | exact sameP_t.tr (sameP_t.tr (sameP_s q44_0))), (by first | (have h0 := (sameW_0 q44_0).trans uI_s; omega) | (simp only [uI_s, and_true]; omega) | omega), rfl, rfl⟩
    · skip
      have hLi := hL i (by omega) (by omega)
      have hW1 := WI_1 hWI (i := i) (by omega) (by omega)
      refine lv_aload_n Ex Eb dX8_installmentFor_25 rfl (lv_at hl 0 rfl) ?_
      refine lv_iload_n Ex Eb dX8_installmentFor_26 rfl (lv_at hl 1 rfl) ?_
      refine lo_callV (q0 := 0) (rest := []) E hK hw (kX8_isRunning l X d (uI M 0 t5) w i (by omega) (by omega)) (cwV 1 E.2.2.2.2 gX8_installmentFor_X8_isRunning rfl rfl rfl (by decide +kernel) ⟨Nat.le_of_ble_eq_true rfl, Nat.le_of_ble_eq_true rfl⟩) rfl rfl [0, 1] rfl (by decide) hl.1 rfl rfl (Nat.le_of_ble_eq_true rfl) dX8_installmentFor_27 ⟨Nat.le_of_ble_eq_true rfl, Nat.le_of_ble_eq_true rfl⟩ (fun v w1 H locs hq hw => ?_)
      obtain ⟨r7, q27_0, rfl, rfl⟩ := hq
      have hw : lo_Wd X ([oX8 (d 0) t5 (d 1) (d 2) (M 3) (d 3) (M 5) (d 4) (d 5) (d 6) (M 9) (d 7) (M 11) (M 12) (M 13) (M 14) (M 15) (M 16) (M 17) (M 18) (M 19) (M 20) (M 21) (M 22) (M 23) (M 24) (M 25) (M 26) (M 27) (M 28), arI X (d 1) 122 w]) A9 s9.heap H locs := hw
      refine W.eq (g2 := F0 m9 30 ls [.int (iI r7)]) rfl ?_
      refine lo_if_ne (tgt := 35) E dX8_installmentFor_30 (by decide) (by omega) (fun c8 => ?_) (fun c8 => ?_)
      · skip
        have hc5 : 0 ≤ wOf w i 5 ∧ wOf w i 5 < 120000 := hLi.2.2.1
        refine lv_aload_n Ex Eb dX8_installmentFor_35 rfl (lv_at hl 0 rfl) ?_
        refine lv_iload_n Ex Eb dX8_installmentFor_36 rfl (lv_at hl 1 rfl) ?_
        refine lv_aload_n Ex Eb dX8_installmentFor_37 rfl (lv_at hl 0 rfl) ?_
        refine lv_iload_n Ex Eb dX8_installmentFor_38 rfl (lv_at hl 1 rfl) ?_
        refine lv_iconst (v := iI 2) Ex Eb dX8_installmentFor_39 rfl ?_
        refine lo_callV (q0 := 0) (rest := [.int (iI i), .ref (d 0)]) E hK hw (kX8_of l X d (uI M 0 t5) w i 2 (by omega) (by omega)) (cwV 2 E.2.2.2.2 gX8_installmentFor_X8_of rfl rfl rfl (by decide +kernel) ⟨Nat.le_of_ble_eq_true rfl, Nat.le_of_ble_eq_true rfl⟩) rfl rfl [0, 1] rfl (by decide) hl.1 rfl rfl (Nat.le_of_ble_eq_true rfl) dX8_installmentFor_40 ⟨Nat.le_of_ble_eq_true rfl, Nat.le_of_ble_eq_true rfl⟩ (fun v w1 H locs hq hw => ?_)
        obtain ⟨rfl, rfl⟩ := hq
        have hw : lo_Wd X ([oX8 (d 0) t5 (d 1) (d 2) (M 3) (d 3) (M 5) (d 4) (d 5) (d 6) (M 9) (d 7) (M 11) (M 12) (M 13) (M 14) (M 15) (M 16) (M 17) (M 18) (M 19) (M 20) (M 21) (M 22) (M 23) (M 24) (M 25) (M 26) (M 27) (M 28), arI X (d 1) 122 w]) A9 s9.heap H locs := hw
        refine W.eq (g2 := F0 m9 43 ls [.int (iI (wOf w i 2)), .int (iI i), .ref (d 0)]) rfl ?_
        refine lv_iload_n Ex Eb dX8_installmentFor_43 rfl (lv_at hl 2 rfl) ?_
        refine lo_callV (q0 := 0) (rest := []) E hK hw (kX8_level l X d (uI M 0 t5) w i (wOf w i 2) a (by omega) (by omega) (hc5) (by omega) (by omega)) (cwV 3 E.2.2.2.2 gX8_installmentFor_X8_level rfl rfl rfl (by decide +kernel) ⟨Nat.le_of_ble_eq_true rfl, Nat.le_of_ble_eq_true rfl⟩) rfl rfl [0, 1] rfl (by decide) hl.1 rfl rfl (Nat.le_of_ble_eq_true rfl) dX8_installmentFor_44 ⟨Nat.le_of_ble_eq_true rfl, Nat.le_of_ble_eq_true rfl⟩ (fun v w1 H locs hq hw => ?_)
        obtain ⟨N9, q44_0, rfl, rfl⟩ := hq
        have hw : lo_Wd X ([oX8 (d 0) (N9 0) (d 1) (d 2) (N9 3) (d 3) (N9 5) (d 4) (d 5) (d 6) (N9 9) (d 7) (N9 11) (N9 12) (N9 13) (N9 14) (N9 15) (N9 16) (N9 17) (N9 18) (N9 19) (N9 20) (N9 21) (N9 22) (N9 23) (N9 24) (N9 25) (N9 26) (N9 27) (N9 28), arI X (d 1) 122 w]) A9 s9.heap H locs := hw
        refine W.eq (g2 := F0 m9 47 ls [.int (iI (lvl (wOf w i 1) (wOf w i 2) (wOf w i 5) a))]) rfl ?_
        exact lo_iret E hRt hLk hK hAe hw dX8_installmentFor_47 rfl ⟨N9, lvl (wOf w i 1) (wOf w i 2) (wOf w i 5) a, (by first | exact sameP_t | exact sameP_t.tr (sameP_t) | exact sameP_w q44_0 | exact sameP_t.tr (sameP_w q44_0) | exact sameP_t.tr (sameP_t.tr (sameP_s q44_0))), (by first | (have h0 := (sameW_0 q44_0).trans uI_s; omega) | (simp only [uI_s, and_true]; omega) | omega), rfl, rfl⟩
      · skip
        refine lv_iconst (v := iI 0) Ex Eb dX8_installmentFor_33 rfl ?_
        exact lo_iret E hRt hLk hK hAe hw dX8_installmentFor_34 rfl ⟨uI M 0 t5, 0, (by first | exact sameP_t | exact sameP_t.tr (sameP_t) | exact sameP_w q44_0 | exact sameP_t.tr (sameP_w q44_0) | exact sameP_t.tr (sameP_t.tr (sameP_s q44_0))), (by first | (have h0 := (sameW_0 q44_0).trans uI_s; omega) | (simp only [uI_s, and_true]; omega) | omega), rfl, rfl⟩
set_option maxHeartbeats 4000000 in
set_option maxRecDepth 100000 in
theorem kX8_monthsFor (l : Launch) (X : KX) (d : Nat → Nat) (M w : Nat → Int) (i a : Int) (hWI : WI w) (hi : i32 i) (ha : i32 a) : CM l X yX8_monthsFor wsX8_monthsFor ({ frames := 4, cells := 0, slots := 0, locals := 102 }) [.ref (d 0), .int (iI i), .int (iI a)] ([oX8 (d 0) (M 0) (d 1) (d 2) (M 3) (d 3) (M 5) (d 4) (d 5) (d 6) (M 9) (d 7) (M 11) (M 12) (M 13) (M 14) (M 15) (M 16) (M 17) (M 18) (M 19) (M 20) (M 21) (M 22) (M 23) (M 24) (M 25) (M 26) (M 27) (M 28), arI X (d 1) 122 w]) (fun v9 w9 => ∃ N : Nat → Int, ∃ r : Int, (sameP M N) ∧ ((N 0 = 0 ∧ (0 ≤ i ∧ i < w 0) ∧ (1 ≤ a ∧ a ≤ 9999999) ∧ ((0 < wOf w i 1 ∧ r = trm (wOf w i 2) a 120 1 (wOf w i 1) (wOf w i 5)) ∨ (wOf w i 1 ≤ 0 ∧ r = 0))) ∨ (N 0 = 1 ∧ ¬ (0 ≤ i ∧ i < w 0)) ∨ (N 0 = 2 ∧ (0 ≤ i ∧ i < w 0) ∧ ¬ (1 ≤ a ∧ a ≤ 9999999))) ∧ v9 = some (.int (iI r)) ∧ w9 = [oX8 (d 0) (N 0) (d 1) (d 2) (N 3) (d 3) (N 5) (d 4) (d 5) (d 6) (N 9) (d 7) (N 11) (N 12) (N 13) (N 14) (N 15) (N 16) (N 17) (N 18) (N 19) (N 20) (N 21) (N 22) (N 23) (N 24) (N 25) (N 26) (N 27) (N 28), arI X (d 1) 122 w]) 0 0 := by
  refine lo_enter (cc := cX8_monthsFor) (maxL := 3) (ret := (some .int)) (lv := [(0, .ref (d 0)), (1, .int (iI i)), (2, .int (iI a))]) (by decide) rfl rfl (Nat.le_of_ble_eq_true rfl) ?_
  intro p9 e9 s9 m9 bl9 me9 c9 A9 ls hAe E hRt hLk hK hl hw
  have Ex := E.1
  have Eb := E.2.1
  have huRX8 : ∀ w ∈ u_ws RX8 TX8 29, w ∈ wsX8_monthsFor := by decide +kernel
  have hf56 : (Cond.fieldLink RX8 56 "LoanScheduleModel" "thrown" "I").before _ s9 = true := E.2.2.2.2 _ (List.mem_of_getElem? (i := 1) rfl)
  have hc154 : (Cond.constant RX8 154 (9999999)).before _ s9 = true := E.2.2.2.2 _ (List.mem_of_getElem? (i := 2) rfl)
  obtain ⟨⟨hn0, hn1⟩, ⟨hb0, hb1⟩, hL⟩ := id hWI
  refine lv_aload_n Ex Eb dX8_monthsFor_0 rfl (lv_at hl 0 rfl) ?_
  refine lv_iconst (v := iI 0) Ex Eb dX8_monthsFor_1 rfl ?_
  refine lo_put E hK hw huRX8 tyX8 tyX8_ok nmX8 0 hf56 rfl 0 rfl rfl (by decide) rfl rfl rfl rfl (Nat.le_of_ble_eq_true rfl) (ws' := [oX8 (d 0) 0 (d 1) (d 2) (M 3) (d 3) (M 5) (d 4) (d 5) (d 6) (M 9) (d 7) (M 11) (M 12) (M 13) (M 14) (M 15) (M 16) (M 17) (M 18) (M 19) (M 20) (M 21) (M 22) (M 23) (M 24) (M 25) (M 26) (M 27) (M 28), arI X (d 1) 122 w]) rfl dX8_monthsFor_2 (fun H locs hw => ?_)
  refine lv_aload_n Ex Eb dX8_monthsFor_5 rfl (lv_at hl 0 rfl) ?_
  refine lv_iload_n Ex Eb dX8_monthsFor_6 rfl (lv_at hl 1 rfl) ?_
  refine lo_callV (q0 := 0) (rest := []) E hK hw (kX8_noLoan l X d (uI M 0 0) w i (hWI) (by omega)) (cwV 1 E.2.2.2.2 gX8_monthsFor_X8_noLoan rfl rfl rfl (by decide +kernel) ⟨Nat.le_of_ble_eq_true rfl, Nat.le_of_ble_eq_true rfl⟩) rfl rfl [0, 1] rfl (by decide) hl.1 rfl rfl (Nat.le_of_ble_eq_true rfl) dX8_monthsFor_7 ⟨Nat.le_of_ble_eq_true rfl, Nat.le_of_ble_eq_true rfl⟩ (fun v w1 H locs hq hw => ?_)
  obtain ⟨z1, t2, q7_0, rfl, rfl⟩ := hq
  change (z1 = 0 ∧ t2 = 0 ∧ 0 ≤ i ∧ i < w 0) ∨ (z1 = 1 ∧ t2 = 1 ∧ ¬ (0 ≤ i ∧ i < w 0)) at q7_0
  have hw : lo_Wd X ([oX8 (d 0) t2 (d 1) (d 2) (M 3) (d 3) (M 5) (d 4) (d 5) (d 6) (M 9) (d 7) (M 11) (M 12) (M 13) (M 14) (M 15) (M 16) (M 17) (M 18) (M 19) (M 20) (M 21) (M 22) (M 23) (M 24) (M 25) (M 26) (M 27) (M 28), arI X (d 1) 122 w]) A9 s9.heap H locs := hw
  refine W.eq (g2 := F0 m9 10 ls [.int (iI z1)]) rfl ?_
  refine lo_if_ne (tgt := 33) E dX8_monthsFor_10 (by decide) (by omega) (fun c3 => ?_) (fun c3 => ?_)
  · skip
    refine lv_iconst (v := iI 0) Ex Eb dX8_monthsFor_33 rfl ?_
    exact lo_iret E hRt hLk hK hAe hw dX8_monthsFor_34 rfl ⟨uI M 0 t2, 0, (by first | exact sameP_t | exact sameP_t.tr (sameP_t) | exact sameP_w q44_0 | exact sameP_t.tr (sameP_w q44_0) | exact sameP_t.tr (sameP_t.tr (sameP_s q44_0))), (by first | (have h0 := (sameW_0 q44_0).trans uI_s; omega) | (simp only [uI_s, and_true]; omega) | omega), rfl, rfl⟩
  · skip
    refine lv_aload_n Ex Eb dX8_monthsFor_13 rfl (lv_at hl 0 rfl) ?_
    refine lv_iload_n Ex Eb dX8_monthsFor_14 rfl (lv_at hl 2 rfl) ?_
    refine lv_iconst (v := iI 1) Ex Eb dX8_monthsFor_15 rfl ?_
    refine lo_ldc (z := 9999999) E hc154 dX8_monthsFor_16 rfl ?_
    refine lv_iconst (v := iI 2) Ex Eb dX8_monthsFor_18 rfl ?_
    refine lo_callV (q0 := 0) (rest := []) E hK hw (kX8_outside l X d (uI M 0 t2) a 1 9999999 2 (by omega) (by omega) (by omega)) (cwV 4 E.2.2.2.2 gX8_monthsFor_X8_outside rfl rfl rfl (by decide +kernel) ⟨Nat.le_of_ble_eq_true rfl, Nat.le_of_ble_eq_true rfl⟩) rfl rfl [0] rfl (by decide) hl.1 rfl rfl (Nat.le_of_ble_eq_true rfl) dX8_monthsFor_19 ⟨Nat.le_of_ble_eq_true rfl, Nat.le_of_ble_eq_true rfl⟩ (fun v w1 H locs hq hw => ?_)
    obtain ⟨z4, t5, q19_0, rfl, rfl⟩ := hq
    change (z4 = 0 ∧ t5 = t2 ∧ 1 ≤ a ∧ a ≤ 9999999) ∨ (z4 = 1 ∧ t5 = 2 ∧ ¬ (1 ≤ a ∧ a ≤ 9999999)) at q19_0
    have hw : lo_Wd X ([oX8 (d 0) t5 (d 1) (d 2) (M 3) (d 3) (M 5) (d 4) (d 5) (d 6) (M 9) (d 7) (M 11) (M 12) (M 13) (M 14) (M 15) (M 16) (M 17) (M 18) (M 19) (M 20) (M 21) (M 22) (M 23) (M 24) (M 25) (M 26) (M 27) (M 28), arI X (d 1) 122 w]) A9 s9.heap H locs := hw
    refine W.eq (g2 := F0 m9 22 ls [.int (iI z4)]) rfl ?_
    refine lo_if_ne (tgt := 33) E dX8_monthsFor_22 (by decide) (by omega) (fun c6 => ?_) (fun c6 => ?_)
    · skip
      refine lv_iconst (v := iI 0) Ex Eb dX8_monthsFor_33 rfl ?_
      exact lo_iret E hRt hLk hK hAe hw dX8_monthsFor_34 rfl ⟨uI M 0 t5, 0, (by first | exact sameP_t | exact sameP_t.tr (sameP_t) | exact sameP_w q44_0 | exact sameP_t.tr (sameP_w q44_0) | exact sameP_t.tr (sameP_t.tr (sameP_s q44_0))), (by first | (have h0 := (sameW_0 q44_0).trans uI_s; omega) | (simp only [uI_s, and_true]; omega) | omega), rfl, rfl⟩
    · skip
      have hLi := hL i (by omega) (by omega)
      have hW1 := WI_1 hWI (i := i) (by omega) (by omega)
      refine lv_aload_n Ex Eb dX8_monthsFor_25 rfl (lv_at hl 0 rfl) ?_
      refine lv_iload_n Ex Eb dX8_monthsFor_26 rfl (lv_at hl 1 rfl) ?_
      refine lo_callV (q0 := 0) (rest := []) E hK hw (kX8_isRunning l X d (uI M 0 t5) w i (by omega) (by omega)) (cwV 1 E.2.2.2.2 gX8_monthsFor_X8_isRunning rfl rfl rfl (by decide +kernel) ⟨Nat.le_of_ble_eq_true rfl, Nat.le_of_ble_eq_true rfl⟩) rfl rfl [0, 1] rfl (by decide) hl.1 rfl rfl (Nat.le_of_ble_eq_true rfl) dX8_monthsFor_27 ⟨Nat.le_of_ble_eq_true rfl, Nat.le_of_ble_eq_true rfl⟩ (fun v w1 H locs hq hw => ?_)
      obtain ⟨r7, q27_0, rfl, rfl⟩ := hq
      have hw : lo_Wd X ([oX8 (d 0) t5 (d 1) (d 2) (M 3) (d 3) (M 5) (d 4) (d 5) (d 6) (M 9) (d 7) (M 11) (M 12) (M 13) (M 14) (M 15) (M 16) (M 17) (M 18) (M 19) (M 20) (M 21) (M 22) (M 23) (M 24) (M 25) (M 26) (M 27) (M 28), arI X (d 1) 122 w]) A9 s9.heap H locs := hw
      refine W.eq (g2 := F0 m9 30 ls [.int (iI r7)]) rfl ?_
      refine lo_if_ne (tgt := 35) E dX8_monthsFor_30 (by decide) (by omega) (fun c8 => ?_) (fun c8 => ?_)
      · skip
        have hc5 : 0 ≤ wOf w i 5 ∧ wOf w i 5 < 120000 := hLi.2.2.1
        refine lv_aload_n Ex Eb dX8_monthsFor_35 rfl (lv_at hl 0 rfl) ?_
        refine lv_iload_n Ex Eb dX8_monthsFor_36 rfl (lv_at hl 1 rfl) ?_
        refine lv_aload_n Ex Eb dX8_monthsFor_37 rfl (lv_at hl 0 rfl) ?_
        refine lv_iload_n Ex Eb dX8_monthsFor_38 rfl (lv_at hl 1 rfl) ?_
        refine lv_iconst (v := iI 2) Ex Eb dX8_monthsFor_39 rfl ?_
        refine lo_callV (q0 := 0) (rest := [.int (iI i), .ref (d 0)]) E hK hw (kX8_of l X d (uI M 0 t5) w i 2 (by omega) (by omega)) (cwV 2 E.2.2.2.2 gX8_monthsFor_X8_of rfl rfl rfl (by decide +kernel) ⟨Nat.le_of_ble_eq_true rfl, Nat.le_of_ble_eq_true rfl⟩) rfl rfl [0, 1] rfl (by decide) hl.1 rfl rfl (Nat.le_of_ble_eq_true rfl) dX8_monthsFor_40 ⟨Nat.le_of_ble_eq_true rfl, Nat.le_of_ble_eq_true rfl⟩ (fun v w1 H locs hq hw => ?_)
        obtain ⟨rfl, rfl⟩ := hq
        have hw : lo_Wd X ([oX8 (d 0) t5 (d 1) (d 2) (M 3) (d 3) (M 5) (d 4) (d 5) (d 6) (M 9) (d 7) (M 11) (M 12) (M 13) (M 14) (M 15) (M 16) (M 17) (M 18) (M 19) (M 20) (M 21) (M 22) (M 23) (M 24) (M 25) (M 26) (M 27) (M 28), arI X (d 1) 122 w]) A9 s9.heap H locs := hw
        refine W.eq (g2 := F0 m9 43 ls [.int (iI (wOf w i 2)), .int (iI i), .ref (d 0)]) rfl ?_
        refine lv_iload_n Ex Eb dX8_monthsFor_43 rfl (lv_at hl 2 rfl) ?_
        refine lo_callV (q0 := 0) (rest := []) E hK hw (kX8_fewestMonths l X d (uI M 0 t5) w i (wOf w i 2) a (by omega) (by omega) (hc5) (by omega) (by omega)) (cwV 3 E.2.2.2.2 gX8_monthsFor_X8_fewestMonths rfl rfl rfl (by decide +kernel) ⟨Nat.le_of_ble_eq_true rfl, Nat.le_of_ble_eq_true rfl⟩) rfl rfl [0, 1] rfl (by decide) hl.1 rfl rfl (Nat.le_of_ble_eq_true rfl) dX8_monthsFor_44 ⟨Nat.le_of_ble_eq_true rfl, Nat.le_of_ble_eq_true rfl⟩ (fun v w1 H locs hq hw => ?_)
        obtain ⟨N9, q44_0, rfl, rfl⟩ := hq
        have hw : lo_Wd X ([oX8 (d 0) (N9 0) (d 1) (d 2) (N9 3) (d 3) (N9 5) (d 4) (d 5) (d 6) (N9 9) (d 7) (N9 11) (N9 12) (N9 13) (N9 14) (N9 15) (N9 16) (N9 17) (N9 18) (N9 19) (N9 20) (N9 21) (N9 22) (N9 23) (N9 24) (N9 25) (N9 26) (N9 27) (N9 28), arI X (d 1) 122 w]) A9 s9.heap H locs := hw
        refine W.eq (g2 := F0 m9 47 ls [.int (iI (trm (wOf w i 2) a 120 1 (wOf w i 1) (wOf w i 5)))]) rfl ?_
        exact lo_iret E hRt hLk hK hAe hw dX8_monthsFor_47 rfl ⟨N9, trm (wOf w i 2) a 120 1 (wOf w i 1) (wOf w i 5), (by first | exact sameP_t | exact sameP_t.tr (sameP_t) | exact sameP_w q44_0 | exact sameP_t.tr (sameP_w q44_0) | exact sameP_t.tr (sameP_t.tr (sameP_s q44_0))), (by first | (have h0 := (sameW_0 q44_0).trans uI_s; omega) | (simp only [uI_s, and_true]; omega) | omega), rfl, rfl⟩
      · skip
        refine lv_iconst (v := iI 0) Ex Eb dX8_monthsFor_33 rfl ?_
        exact lo_iret E hRt hLk hK hAe hw dX8_monthsFor_34 rfl ⟨uI M 0 t5, 0, (by first | exact sameP_t | exact sameP_t.tr (sameP_t) | exact sameP_w q44_0 | exact sameP_t.tr (sameP_w q44_0) | exact sameP_t.tr (sameP_t.tr (sameP_s q44_0))), (by first | (have h0 := (sameW_0 q44_0).trans uI_s; omega) | (simp only [uI_s, and_true]; omega) | omega), rfl, rfl⟩
set_option maxHeartbeats 4000000 in
set_option maxRecDepth 100000 in
theorem kX8_interestOfPayment (l : Launch) (X : KX) (d : Nat → Nat) (M w : Nat → Int) (i a : Int) (hWI : WI w) (hi : i32 i) (ha : i32 a) : CM l X yX8_interestOfPayment wsX8_interestOfPayment ({ frames := 3, cells := 0, slots := 0, locals := 70 }) [.ref (d 0), .int (iI i), .int (iI a)] ([oX8 (d 0) (M 0) (d 1) (d 2) (M 3) (d 3) (M 5) (d 4) (d 5) (d 6) (M 9) (d 7) (M 11) (M 12) (M 13) (M 14) (M 15) (M 16) (M 17) (M 18) (M 19) (M 20) (M 21) (M 22) (M 23) (M 24) (M 25) (M 26) (M 27) (M 28), arI X (d 1) 122 w]) (fun v9 w9 => ∃ N : Nat → Int, ∃ r : Int, (sameP M N) ∧ ((N 0 = 0 ∧ (0 ≤ i ∧ i < w 0) ∧ (1 ≤ a ∧ a ≤ 120) ∧ ((0 < runL (a - 1).toNat (WL w i) 1 ∧ r = fI (runL (a - 1).toNat (WL w i) 1) (runL (a - 1).toNat (WL w i) 2) (runL (a - 1).toNat (WL w i) 5)) ∨ (runL (a - 1).toNat (WL w i) 1 ≤ 0 ∧ r = -1))) ∨ (N 0 = 1 ∧ ¬ (0 ≤ i ∧ i < w 0)) ∨ (N 0 = 2 ∧ (0 ≤ i ∧ i < w 0) ∧ ¬ (1 ≤ a ∧ a ≤ 120))) ∧ v9 = some (.int (iI r)) ∧ w9 = [oX8 (d 0) (N 0) (d 1) (d 2) (N 3) (d 3) (N 5) (d 4) (d 5) (d 6) (N 9) (d 7) (N 11) (N 12) (N 13) (N 14) (N 15) (N 16) (N 17) (N 18) (N 19) (N 20) (N 21) (N 22) (N 23) (N 24) (N 25) (N 26) (N 27) (N 28), arI X (d 1) 122 w]) 0 0 := by
  refine lo_enter (cc := cX8_interestOfPayment) (maxL := 3) (ret := (some .int)) (lv := [(0, .ref (d 0)), (1, .int (iI i)), (2, .int (iI a))]) (by decide) rfl rfl (Nat.le_of_ble_eq_true rfl) ?_
  intro p9 e9 s9 m9 bl9 me9 c9 A9 ls hAe E hRt hLk hK hl hw
  have Ex := E.1
  have Eb := E.2.1
  have huRX8 : ∀ w ∈ u_ws RX8 TX8 29, w ∈ wsX8_interestOfPayment := by decide +kernel
  have hf94 : (Cond.fieldLink RX8 94 "LoanScheduleModel" "walkInterest" "J").before _ s9 = true := E.2.2.2.2 _ (List.mem_of_getElem? (i := 1) rfl)
  obtain ⟨⟨hn0, hn1⟩, ⟨hb0, hb1⟩, hL⟩ := id hWI
  refine lv_aload_n Ex Eb dX8_interestOfPayment_0 rfl (lv_at hl 0 rfl) ?_
  refine lv_iload_n Ex Eb dX8_interestOfPayment_1 rfl (lv_at hl 1 rfl) ?_
  refine lv_iload_n Ex Eb dX8_interestOfPayment_2 rfl (lv_at hl 2 rfl) ?_
  refine lo_callV (q0 := 0) (rest := []) E hK hw (kX8_noPayment l X d M w i a (hWI) (by omega) (by omega)) (cwV 2 E.2.2.2.2 gX8_interestOfPayment_X8_noPayment rfl rfl rfl (by decide +kernel) ⟨Nat.le_of_ble_eq_true rfl, Nat.le_of_ble_eq_true rfl⟩) rfl rfl [0, 1] rfl (by decide) hl.1 rfl rfl (Nat.le_of_ble_eq_true rfl) dX8_interestOfPayment_3 ⟨Nat.le_of_ble_eq_true rfl, Nat.le_of_ble_eq_true rfl⟩ (fun v w1 H locs hq hw => ?_)
  obtain ⟨z1, t2, q3_0, rfl, rfl⟩ := hq
  have hw : lo_Wd X ([oX8 (d 0) t2 (d 1) (d 2) (M 3) (d 3) (M 5) (d 4) (d 5) (d 6) (M 9) (d 7) (M 11) (M 12) (M 13) (M 14) (M 15) (M 16) (M 17) (M 18) (M 19) (M 20) (M 21) (M 22) (M 23) (M 24) (M 25) (M 26) (M 27) (M 28), arI X (d 1) 122 w]) A9 s9.heap H locs := hw
  refine W.eq (g2 := F0 m9 6 ls [.int (iI z1)]) rfl ?_
  refine lo_if_eq (tgt := 11) E dX8_interestOfPayment_6 (by decide) (by omega) (fun c3 => ?_) (fun c3 => ?_)
  · skip
    have hLi := hL i (by omega) (by omega)
    refine lv_aload_n Ex Eb dX8_interestOfPayment_11 rfl (lv_at hl 0 rfl) ?_
    refine lv_iload_n Ex Eb dX8_interestOfPayment_12 rfl (lv_at hl 1 rfl) ?_
    refine lv_iload_n Ex Eb dX8_interestOfPayment_13 rfl (lv_at hl 2 rfl) ?_
    refine lo_callV (q0 := 0) (rest := []) E hK hw (kX8_reaches l X d (uI M 0 t2) w i a (by omega) (hLi) (by omega)) (cwV 2 E.2.2.2.2 gX8_interestOfPayment_X8_reaches rfl rfl rfl (by decide +kernel) ⟨Nat.le_of_ble_eq_true rfl, Nat.le_of_ble_eq_true rfl⟩) rfl rfl [0, 1] rfl (by decide) hl.1 rfl rfl (Nat.le_of_ble_eq_true rfl) dX8_interestOfPayment_14 ⟨Nat.le_of_ble_eq_true rfl, Nat.le_of_ble_eq_true rfl⟩ (fun v w1 H locs hq hw => ?_)
    obtain ⟨N4, z5, q14_0, q14_1, rfl, rfl⟩ := hq
    have hw : lo_Wd X ([oX8 (d 0) (N4 0) (d 1) (d 2) (N4 3) (d 3) (N4 5) (d 4) (d 5) (d 6) (N4 9) (d 7) (N4 11) (N4 12) (N4 13) (N4 14) (N4 15) (N4 16) (N4 17) (N4 18) (N4 19) (N4 20) (N4 21) (N4 22) (N4 23) (N4 24) (N4 25) (N4 26) (N4 27) (N4 28), arI X (d 1) 122 w]) A9 s9.heap H locs := hw
    refine W.eq (g2 := F0 m9 17 ls [.int (iI z5)]) rfl ?_
    have hz9 := RQ_b q14_1
    have hw : lo_Wd X ([oX8 (d 0) (N4 0) (d 1) (d 2) (N4 3) (d 3) (N4 5) (d 4) (d 5) (d 6) (N4 9) (d 7) (N4 11) (N4 12) (N4 13) (N4 14) (N4 15) (N4 16) (N4 17) (N4 18) (N4 19) (N4 20) (N4 21) (N4 22) (N4 23) (N4 24) (N4 25) (N4 26) (N4 27) (N4 28), arI X (d 1) 122 w]) A9 s9.heap H locs := hw
    refine lo_if_eq (tgt := 28) E dX8_interestOfPayment_17 (by decide) (by omega) (fun c6 => ?_) (fun c6 => ?_)
    · skip
      refine lv_iconst (v := iI (-1)) Ex Eb dX8_interestOfPayment_28 rfl ?_
      exact lo_iret E hRt hLk hK hAe hw dX8_interestOfPayment_29 rfl ⟨N4, -1, (by first | exact sameP_t | exact sameP_w q14_0), (by first | (have h0 := (sameW_0 q14_0).trans uI_s; rcases q14_1 with ⟨h1, h2, h3, h4⟩ | ⟨h1, h2⟩ <;> first | (exfalso; omega) | exact Or.inl ⟨by omega, by omega, by omega, by omega⟩) | (simp only [uI_s, and_true]; omega)), rfl, rfl⟩
    · skip
      refine lv_aload_n Ex Eb dX8_interestOfPayment_20 rfl (lv_at hl 0 rfl) ?_
      refine lo_get E hK hw huRX8 14 hf94 rfl 0 rfl rfl (by decide) (v := .long (iL (N4 14))) rfl dX8_interestOfPayment_21 ?_
      refine lo_l2i E dX8_interestOfPayment_24 ?_
      refine lv_goto (tgt := 29) Ex Eb dX8_interestOfPayment_25 (by decide) ?_
      exact lo_iret E hRt hLk hK hAe hw dX8_interestOfPayment_29 rfl ⟨N4, N4 14, (by first | exact sameP_t | exact sameP_w q14_0), (by first | (have h0 := (sameW_0 q14_0).trans uI_s; rcases q14_1 with ⟨h1, h2, h3, h4⟩ | ⟨h1, h2⟩ <;> first | (exfalso; omega) | exact Or.inl ⟨by omega, by omega, by omega, by omega⟩) | (simp only [uI_s, and_true]; omega)), rfl, rfl⟩
  · skip
    refine lv_iconst (v := iI 0) Ex Eb dX8_interestOfPayment_9 rfl ?_
    exact lo_iret E hRt hLk hK hAe hw dX8_interestOfPayment_10 rfl ⟨uI M 0 t2, 0, (by first | exact sameP_t | exact sameP_w q14_0), (by first | (have h0 := (sameW_0 q14_0).trans uI_s; rcases q14_1 with ⟨h1, h2, h3, h4⟩ | ⟨h1, h2⟩ <;> first | (exfalso; omega) | exact Or.inl ⟨by omega, by omega, by omega, by omega⟩) | (simp only [uI_s, and_true]; omega)), rfl, rfl⟩
set_option maxHeartbeats 4000000 in
set_option maxRecDepth 100000 in
theorem kX8_amountOfPayment (l : Launch) (X : KX) (d : Nat → Nat) (M w : Nat → Int) (i a : Int) (hWI : WI w) (hi : i32 i) (ha : i32 a) : CM l X yX8_amountOfPayment wsX8_amountOfPayment ({ frames := 3, cells := 0, slots := 0, locals := 70 }) [.ref (d 0), .int (iI i), .int (iI a)] ([oX8 (d 0) (M 0) (d 1) (d 2) (M 3) (d 3) (M 5) (d 4) (d 5) (d 6) (M 9) (d 7) (M 11) (M 12) (M 13) (M 14) (M 15) (M 16) (M 17) (M 18) (M 19) (M 20) (M 21) (M 22) (M 23) (M 24) (M 25) (M 26) (M 27) (M 28), arI X (d 1) 122 w]) (fun v9 w9 => ∃ N : Nat → Int, ∃ r : Int, (sameP M N) ∧ ((N 0 = 0 ∧ (0 ≤ i ∧ i < w 0) ∧ (1 ≤ a ∧ a ≤ 120) ∧ ((0 < runL (a - 1).toNat (WL w i) 1 ∧ r = dueL (runL (a - 1).toNat (WL w i))) ∨ (runL (a - 1).toNat (WL w i) 1 ≤ 0 ∧ r = -1))) ∨ (N 0 = 1 ∧ ¬ (0 ≤ i ∧ i < w 0)) ∨ (N 0 = 2 ∧ (0 ≤ i ∧ i < w 0) ∧ ¬ (1 ≤ a ∧ a ≤ 120))) ∧ v9 = some (.int (iI r)) ∧ w9 = [oX8 (d 0) (N 0) (d 1) (d 2) (N 3) (d 3) (N 5) (d 4) (d 5) (d 6) (N 9) (d 7) (N 11) (N 12) (N 13) (N 14) (N 15) (N 16) (N 17) (N 18) (N 19) (N 20) (N 21) (N 22) (N 23) (N 24) (N 25) (N 26) (N 27) (N 28), arI X (d 1) 122 w]) 0 0 := by
  refine lo_enter (cc := cX8_amountOfPayment) (maxL := 3) (ret := (some .int)) (lv := [(0, .ref (d 0)), (1, .int (iI i)), (2, .int (iI a))]) (by decide) rfl rfl (Nat.le_of_ble_eq_true rfl) ?_
  intro p9 e9 s9 m9 bl9 me9 c9 A9 ls hAe E hRt hLk hK hl hw
  have Ex := E.1
  have Eb := E.2.1
  have huRX8 : ∀ w ∈ u_ws RX8 TX8 29, w ∈ wsX8_amountOfPayment := by decide +kernel
  have hf91 : (Cond.fieldLink RX8 91 "LoanScheduleModel" "walkDue" "J").before _ s9 = true := E.2.2.2.2 _ (List.mem_of_getElem? (i := 1) rfl)
  obtain ⟨⟨hn0, hn1⟩, ⟨hb0, hb1⟩, hL⟩ := id hWI
  refine lv_aload_n Ex Eb dX8_amountOfPayment_0 rfl (lv_at hl 0 rfl) ?_
  refine lv_iload_n Ex Eb dX8_amountOfPayment_1 rfl (lv_at hl 1 rfl) ?_
  refine lv_iload_n Ex Eb dX8_amountOfPayment_2 rfl (lv_at hl 2 rfl) ?_
  refine lo_callV (q0 := 0) (rest := []) E hK hw (kX8_noPayment l X d M w i a (hWI) (by omega) (by omega)) (cwV 2 E.2.2.2.2 gX8_amountOfPayment_X8_noPayment rfl rfl rfl (by decide +kernel) ⟨Nat.le_of_ble_eq_true rfl, Nat.le_of_ble_eq_true rfl⟩) rfl rfl [0, 1] rfl (by decide) hl.1 rfl rfl (Nat.le_of_ble_eq_true rfl) dX8_amountOfPayment_3 ⟨Nat.le_of_ble_eq_true rfl, Nat.le_of_ble_eq_true rfl⟩ (fun v w1 H locs hq hw => ?_)
  obtain ⟨z1, t2, q3_0, rfl, rfl⟩ := hq
  have hw : lo_Wd X ([oX8 (d 0) t2 (d 1) (d 2) (M 3) (d 3) (M 5) (d 4) (d 5) (d 6) (M 9) (d 7) (M 11) (M 12) (M 13) (M 14) (M 15) (M 16) (M 17) (M 18) (M 19) (M 20) (M 21) (M 22) (M 23) (M 24) (M 25) (M 26) (M 27) (M 28), arI X (d 1) 122 w]) A9 s9.heap H locs := hw
  refine W.eq (g2 := F0 m9 6 ls [.int (iI z1)]) rfl ?_
  refine lo_if_eq (tgt := 11) E dX8_amountOfPayment_6 (by decide) (by omega) (fun c3 => ?_) (fun c3 => ?_)
  · skip
    have hLi := hL i (by omega) (by omega)
    refine lv_aload_n Ex Eb dX8_amountOfPayment_11 rfl (lv_at hl 0 rfl) ?_
    refine lv_iload_n Ex Eb dX8_amountOfPayment_12 rfl (lv_at hl 1 rfl) ?_
    refine lv_iload_n Ex Eb dX8_amountOfPayment_13 rfl (lv_at hl 2 rfl) ?_
    refine lo_callV (q0 := 0) (rest := []) E hK hw (kX8_reaches l X d (uI M 0 t2) w i a (by omega) (hLi) (by omega)) (cwV 2 E.2.2.2.2 gX8_amountOfPayment_X8_reaches rfl rfl rfl (by decide +kernel) ⟨Nat.le_of_ble_eq_true rfl, Nat.le_of_ble_eq_true rfl⟩) rfl rfl [0, 1] rfl (by decide) hl.1 rfl rfl (Nat.le_of_ble_eq_true rfl) dX8_amountOfPayment_14 ⟨Nat.le_of_ble_eq_true rfl, Nat.le_of_ble_eq_true rfl⟩ (fun v w1 H locs hq hw => ?_)
    obtain ⟨N4, z5, q14_0, q14_1, rfl, rfl⟩ := hq
    have hw : lo_Wd X ([oX8 (d 0) (N4 0) (d 1) (d 2) (N4 3) (d 3) (N4 5) (d 4) (d 5) (d 6) (N4 9) (d 7) (N4 11) (N4 12) (N4 13) (N4 14) (N4 15) (N4 16) (N4 17) (N4 18) (N4 19) (N4 20) (N4 21) (N4 22) (N4 23) (N4 24) (N4 25) (N4 26) (N4 27) (N4 28), arI X (d 1) 122 w]) A9 s9.heap H locs := hw
    refine W.eq (g2 := F0 m9 17 ls [.int (iI z5)]) rfl ?_
    have hz9 := RQ_b q14_1
    have hw : lo_Wd X ([oX8 (d 0) (N4 0) (d 1) (d 2) (N4 3) (d 3) (N4 5) (d 4) (d 5) (d 6) (N4 9) (d 7) (N4 11) (N4 12) (N4 13) (N4 14) (N4 15) (N4 16) (N4 17) (N4 18) (N4 19) (N4 20) (N4 21) (N4 22) (N4 23) (N4 24) (N4 25) (N4 26) (N4 27) (N4 28), arI X (d 1) 122 w]) A9 s9.heap H locs := hw
    refine lo_if_eq (tgt := 28) E dX8_amountOfPayment_17 (by decide) (by omega) (fun c6 => ?_) (fun c6 => ?_)
    · skip
      refine lv_iconst (v := iI (-1)) Ex Eb dX8_amountOfPayment_28 rfl ?_
      exact lo_iret E hRt hLk hK hAe hw dX8_amountOfPayment_29 rfl ⟨N4, -1, (by first | exact sameP_t | exact sameP_w q14_0), (by first | (have h0 := (sameW_0 q14_0).trans uI_s; rcases q14_1 with ⟨h1, h2, h3, h4⟩ | ⟨h1, h2⟩ <;> first | (exfalso; omega) | exact Or.inl ⟨by omega, by omega, by omega, by omega⟩) | (simp only [uI_s, and_true]; omega)), rfl, rfl⟩
    · skip
      refine lv_aload_n Ex Eb dX8_amountOfPayment_20 rfl (lv_at hl 0 rfl) ?_
      refine lo_get E hK hw huRX8 15 hf91 rfl 0 rfl rfl (by decide) (v := .long (iL (N4 15))) rfl dX8_amountOfPayment_21 ?_
      refine lo_l2i E dX8_amountOfPayment_24 ?_
      refine lv_goto (tgt := 29) Ex Eb dX8_amountOfPayment_25 (by decide) ?_
      exact lo_iret E hRt hLk hK hAe hw dX8_amountOfPayment_29 rfl ⟨N4, N4 15, (by first | exact sameP_t | exact sameP_w q14_0), (by first | (have h0 := (sameW_0 q14_0).trans uI_s; rcases q14_1 with ⟨h1, h2, h3, h4⟩ | ⟨h1, h2⟩ <;> first | (exfalso; omega) | exact Or.inl ⟨by omega, by omega, by omega, by omega⟩) | (simp only [uI_s, and_true]; omega)), rfl, rfl⟩
  · skip
    refine lv_iconst (v := iI 0) Ex Eb dX8_amountOfPayment_9 rfl ?_
    exact lo_iret E hRt hLk hK hAe hw dX8_amountOfPayment_10 rfl ⟨uI M 0 t2, 0, (by first | exact sameP_t | exact sameP_w q14_0), (by first | (have h0 := (sameW_0 q14_0).trans uI_s; rcases q14_1 with ⟨h1, h2, h3, h4⟩ | ⟨h1, h2⟩ <;> first | (exfalso; omega) | exact Or.inl ⟨by omega, by omega, by omega, by omega⟩) | (simp only [uI_s, and_true]; omega)), rfl, rfl⟩
set_option maxHeartbeats 4000000 in
set_option maxRecDepth 100000 in
theorem kX8_paymentsTo (l : Launch) (X : KX) (d : Nat → Nat) (M w : Nat → Int) (i a : Int) (hWI : WI w) (hi : i32 i) (ha : i32 a) : CM l X yX8_paymentsTo wsX8_paymentsTo ({ frames := 2, cells := 0, slots := 0, locals := 45 }) [.ref (d 0), .int (iI i), .int (iI a)] ([oX8 (d 0) (M 0) (d 1) (d 2) (M 3) (d 3) (M 5) (d 4) (d 5) (d 6) (M 9) (d 7) (M 11) (M 12) (M 13) (M 14) (M 15) (M 16) (M 17) (M 18) (M 19) (M 20) (M 21) (M 22) (M 23) (M 24) (M 25) (M 26) (M 27) (M 28), arI X (d 1) 122 w]) (fun v9 w9 => ∃ N : Nat → Int, ∃ r : Int, (sameP M N) ∧ ((N 0 = 0 ∧ (0 ≤ i ∧ i < w 0) ∧ (0 ≤ a ∧ a ≤ 9999999) ∧ r = untL 120 (WL w i) a) ∨ (N 0 = 1 ∧ ¬ (0 ≤ i ∧ i < w 0)) ∨ (N 0 = 2 ∧ (0 ≤ i ∧ i < w 0) ∧ ¬ (0 ≤ a ∧ a ≤ 9999999))) ∧ v9 = some (.int (iI r)) ∧ w9 = [oX8 (d 0) (N 0) (d 1) (d 2) (N 3) (d 3) (N 5) (d 4) (d 5) (d 6) (N 9) (d 7) (N 11) (N 12) (N 13) (N 14) (N 15) (N 16) (N 17) (N 18) (N 19) (N 20) (N 21) (N 22) (N 23) (N 24) (N 25) (N 26) (N 27) (N 28), arI X (d 1) 122 w]) 0 0 := by
  refine lo_enter (cc := cX8_paymentsTo) (maxL := 4) (ret := (some .int)) (lv := [(0, .ref (d 0)), (1, .int (iI i)), (2, .int (iI a))]) (by decide) rfl rfl (Nat.le_of_ble_eq_true rfl) ?_
  intro p9 e9 s9 m9 bl9 me9 c9 A9 ls hAe E hRt hLk hK hl hw
  have Ex := E.1
  have Eb := E.2.1
  have huRX8 : ∀ w ∈ u_ws RX8 TX8 29, w ∈ wsX8_paymentsTo := by decide +kernel
  have hf56 : (Cond.fieldLink RX8 56 "LoanScheduleModel" "thrown" "I").before _ s9 = true := E.2.2.2.2 _ (List.mem_of_getElem? (i := 1) rfl)
  have hc154 : (Cond.constant RX8 154 (9999999)).before _ s9 = true := E.2.2.2.2 _ (List.mem_of_getElem? (i := 2) rfl)
  have hf78 : (Cond.fieldLink RX8 78 "LoanScheduleModel" "walkBalance" "J").before _ s9 = true := E.2.2.2.2 _ (List.mem_of_getElem? (i := 3) rfl)
  obtain ⟨⟨hn0, hn1⟩, ⟨hb0, hb1⟩, hL⟩ := id hWI
  refine lv_aload_n Ex Eb dX8_paymentsTo_0 rfl (lv_at hl 0 rfl) ?_
  refine lv_iconst (v := iI 0) Ex Eb dX8_paymentsTo_1 rfl ?_
  refine lo_put E hK hw huRX8 tyX8 tyX8_ok nmX8 0 hf56 rfl 0 rfl rfl (by decide) rfl rfl rfl rfl (Nat.le_of_ble_eq_true rfl) (ws' := [oX8 (d 0) 0 (d 1) (d 2) (M 3) (d 3) (M 5) (d 4) (d 5) (d 6) (M 9) (d 7) (M 11) (M 12) (M 13) (M 14) (M 15) (M 16) (M 17) (M 18) (M 19) (M 20) (M 21) (M 22) (M 23) (M 24) (M 25) (M 26) (M 27) (M 28), arI X (d 1) 122 w]) rfl dX8_paymentsTo_2 (fun H locs hw => ?_)
  refine lv_aload_n Ex Eb dX8_paymentsTo_5 rfl (lv_at hl 0 rfl) ?_
  refine lv_iload_n Ex Eb dX8_paymentsTo_6 rfl (lv_at hl 1 rfl) ?_
  refine lo_callV (q0 := 0) (rest := []) E hK hw (kX8_noLoan l X d (uI M 0 0) w i (hWI) (by omega)) (cwV 1 E.2.2.2.2 gX8_paymentsTo_X8_noLoan rfl rfl rfl (by decide +kernel) ⟨Nat.le_of_ble_eq_true rfl, Nat.le_of_ble_eq_true rfl⟩) rfl rfl [0, 1] rfl (by decide) hl.1 rfl rfl (Nat.le_of_ble_eq_true rfl) dX8_paymentsTo_7 ⟨Nat.le_of_ble_eq_true rfl, Nat.le_of_ble_eq_true rfl⟩ (fun v w1 H locs hq hw => ?_)
  obtain ⟨z1, t2, q7_0, rfl, rfl⟩ := hq
  change (z1 = 0 ∧ t2 = 0 ∧ 0 ≤ i ∧ i < w 0) ∨ (z1 = 1 ∧ t2 = 1 ∧ ¬ (0 ≤ i ∧ i < w 0)) at q7_0
  have hw : lo_Wd X ([oX8 (d 0) t2 (d 1) (d 2) (M 3) (d 3) (M 5) (d 4) (d 5) (d 6) (M 9) (d 7) (M 11) (M 12) (M 13) (M 14) (M 15) (M 16) (M 17) (M 18) (M 19) (M 20) (M 21) (M 22) (M 23) (M 24) (M 25) (M 26) (M 27) (M 28), arI X (d 1) 122 w]) A9 s9.heap H locs := hw
  refine W.eq (g2 := F0 m9 10 ls [.int (iI z1)]) rfl ?_
  refine lo_if_ne (tgt := 25) E dX8_paymentsTo_10 (by decide) (by omega) (fun c3 => ?_) (fun c3 => ?_)
  · skip
    refine lv_iconst (v := iI 0) Ex Eb dX8_paymentsTo_25 rfl ?_
    exact lo_iret E hRt hLk hK hAe hw dX8_paymentsTo_26 rfl ⟨uI M 0 t2, 0, (by first | exact sameP_t | exact iv34_0.1), (by first | (refine Or.inl ⟨iv34_0.2, by omega, by omega, ?_⟩; rw [← iv34_3, untL_e (by omega)]; omega) | (simp only [uI_s, and_true]; omega)), rfl, rfl⟩
  · skip
    refine lv_aload_n Ex Eb dX8_paymentsTo_13 rfl (lv_at hl 0 rfl) ?_
    refine lv_iload_n Ex Eb dX8_paymentsTo_14 rfl (lv_at hl 2 rfl) ?_
    refine lv_iconst (v := iI 0) Ex Eb dX8_paymentsTo_15 rfl ?_
    refine lo_ldc (z := 9999999) E hc154 dX8_paymentsTo_16 rfl ?_
    refine lv_iconst (v := iI 2) Ex Eb dX8_paymentsTo_18 rfl ?_
    refine lo_callV (q0 := 0) (rest := []) E hK hw (kX8_outside l X d (uI M 0 t2) a 0 9999999 2 (by omega) (by omega) (by omega)) (cwV 4 E.2.2.2.2 gX8_paymentsTo_X8_outside rfl rfl rfl (by decide +kernel) ⟨Nat.le_of_ble_eq_true rfl, Nat.le_of_ble_eq_true rfl⟩) rfl rfl [0] rfl (by decide) hl.1 rfl rfl (Nat.le_of_ble_eq_true rfl) dX8_paymentsTo_19 ⟨Nat.le_of_ble_eq_true rfl, Nat.le_of_ble_eq_true rfl⟩ (fun v w1 H locs hq hw => ?_)
    obtain ⟨z4, t5, q19_0, rfl, rfl⟩ := hq
    change (z4 = 0 ∧ t5 = t2 ∧ 0 ≤ a ∧ a ≤ 9999999) ∨ (z4 = 1 ∧ t5 = 2 ∧ ¬ (0 ≤ a ∧ a ≤ 9999999)) at q19_0
    have hw : lo_Wd X ([oX8 (d 0) t5 (d 1) (d 2) (M 3) (d 3) (M 5) (d 4) (d 5) (d 6) (M 9) (d 7) (M 11) (M 12) (M 13) (M 14) (M 15) (M 16) (M 17) (M 18) (M 19) (M 20) (M 21) (M 22) (M 23) (M 24) (M 25) (M 26) (M 27) (M 28), arI X (d 1) 122 w]) A9 s9.heap H locs := hw
    refine W.eq (g2 := F0 m9 22 ls [.int (iI z4)]) rfl ?_
    refine lo_if_eq (tgt := 27) E dX8_paymentsTo_22 (by decide) (by omega) (fun c6 => ?_) (fun c6 => ?_)
    · skip
      have hLi := hL i (by omega) (by omega)
      have hW1 := WI_1 hWI (i := i) (by omega) (by omega)
      have hc5 : 0 ≤ wOf w i 5 ∧ wOf w i 5 < 120000 := hLi.2.2.1
      have hi4 : 0 ≤ wOf w i 4 ∧ wOf w i 4 ≤ 10249999 := hLi.2.2.2.2.1
      refine lv_aload_n Ex Eb dX8_paymentsTo_27 rfl (lv_at hl 0 rfl) ?_
      refine lv_iload_n Ex Eb dX8_paymentsTo_28 rfl (lv_at hl 1 rfl) ?_
      refine lo_callV (q0 := 0) (rest := []) E hK hw (kX8_beginWith l X d (uI M 0 t5) w i (by omega) (by omega) (by omega)) (cwV 1 E.2.2.2.2 gX8_paymentsTo_X8_beginWith rfl rfl rfl (by decide +kernel) ⟨Nat.le_of_ble_eq_true rfl, Nat.le_of_ble_eq_true rfl⟩) rfl rfl [0, 1] rfl (by decide) hl.1 rfl rfl (Nat.le_of_ble_eq_true rfl) dX8_paymentsTo_29 ⟨Nat.le_of_ble_eq_true rfl, Nat.le_of_ble_eq_true rfl⟩ (fun v w1 H locs hq hw => ?_)
      obtain ⟨rfl, rfl⟩ := hq
      have hw : lo_Wd X ([oX8 (d 0) (bgM (uI M 0 t5) (wOf w i 1) (wOf w i 5) 0) (d 1) (d 2) (bgM (uI M 0 t5) (wOf w i 1) (wOf w i 5) 3) (d 3) (bgM (uI M 0 t5) (wOf w i 1) (wOf w i 5) 5) (d 4) (d 5) (d 6) (bgM (uI M 0 t5) (wOf w i 1) (wOf w i 5) 9) (d 7) (bgM (uI M 0 t5) (wOf w i 1) (wOf w i 5) 11) (bgM (uI M 0 t5) (wOf w i 1) (wOf w i 5) 12) (bgM (uI M 0 t5) (wOf w i 1) (wOf w i 5) 13) (bgM (uI M 0 t5) (wOf w i 1) (wOf w i 5) 14) (bgM (uI M 0 t5) (wOf w i 1) (wOf w i 5) 15) (bgM (uI M 0 t5) (wOf w i 1) (wOf w i 5) 16) (bgM (uI M 0 t5) (wOf w i 1) (wOf w i 5) 17) (bgM (uI M 0 t5) (wOf w i 1) (wOf w i 5) 18) (bgM (uI M 0 t5) (wOf w i 1) (wOf w i 5) 19) (bgM (uI M 0 t5) (wOf w i 1) (wOf w i 5) 20) (bgM (uI M 0 t5) (wOf w i 1) (wOf w i 5) 21) (bgM (uI M 0 t5) (wOf w i 1) (wOf w i 5) 22) (bgM (uI M 0 t5) (wOf w i 1) (wOf w i 5) 23) (bgM (uI M 0 t5) (wOf w i 1) (wOf w i 5) 24) (bgM (uI M 0 t5) (wOf w i 1) (wOf w i 5) 25) (bgM (uI M 0 t5) (wOf w i 1) (wOf w i 5) 26) (bgM (uI M 0 t5) (wOf w i 1) (wOf w i 5) 27) (bgM (uI M 0 t5) (wOf w i 1) (wOf w i 5) 28), arI X (d 1) 122 w]) A9 s9.heap H locs := hw
      refine W.eq (g2 := F0 m9 32 ls []) rfl ?_
      refine lv_iconst (v := iI 0) Ex Eb dX8_paymentsTo_32 rfl ?_
      refine lv_istore_n (lv' := [(3, .int (iI 0)), (0, .ref (d 0)), (1, .int (iI i)), (2, .int (iI a))]) Ex Eb dX8_paymentsTo_33 rfl hl (by decide) rfl (fun ls hl => ?_)
      have lp34 : ∀ (n : Nat) (K G : Nat → Int) (ct : Int), (120 - ct).toNat < n → (sameP M K ∧ K 0 = 0) → (SR G K (wOf w i 2) (wOf w i 4) (wOf w i 3 - ct)) → (0 ≤ ct ∧ ct ≤ 120) → (untL (120 - ct).toNat G a + ct = untL 120 (WL w i) a) → ∀ (H : Heap) (locs : List Loc) (ls : Array Slot), lo_Wd X ([oX8 (d 0) (K 0) (d 1) (d 2) (K 3) (d 3) (K 5) (d 4) (d 5) (d 6) (K 9) (d 7) (K 11) (K 12) (K 13) (K 14) (K 15) (K 16) (K 17) (K 18) (K 19) (K 20) (K 21) (K 22) (K 23) (K 24) (K 25) (K 26) (K 27) (K 28), arI X (d 1) 122 w]) A9 s9.heap H locs → lv_has ls 4 [(0, .ref (d 0)), (1, .int (iI i)), (2, .int (iI a)), (3, .int (iI ct))] → W p9 l e9 ({ frames := 2, cells := 0, slots := 0, locals := 45 } : Room) s9 m9 ([.ref (d 0), .int (iI i), .int (iI a)] : List Value).toArray bl9 me9 c9 H locs 0 0 (MQ bl9 (lo_Qc X ([oX8 (d 0) (M 0) (d 1) (d 2) (M 3) (d 3) (M 5) (d 4) (d 5) (d 6) (M 9) (d 7) (M 11) (M 12) (M 13) (M 14) (M 15) (M 16) (M 17) (M 18) (M 19) (M 20) (M 21) (M 22) (M 23) (M 24) (M 25) (M 26) (M 27) (M 28), arI X (d 1) 122 w]) s9.heap.size (fun v9 w9 => ∃ N : Nat → Int, ∃ r : Int, (sameP M N) ∧ ((N 0 = 0 ∧ (0 ≤ i ∧ i < w 0) ∧ (0 ≤ a ∧ a ≤ 9999999) ∧ r = untL 120 (WL w i) a) ∨ (N 0 = 1 ∧ ¬ (0 ≤ i ∧ i < w 0)) ∨ (N 0 = 2 ∧ (0 ≤ i ∧ i < w 0) ∧ ¬ (0 ≤ a ∧ a ≤ 9999999))) ∧ v9 = some (.int (iI r)) ∧ w9 = [oX8 (d 0) (N 0) (d 1) (d 2) (N 3) (d 3) (N 5) (d 4) (d 5) (d 6) (N 9) (d 7) (N 11) (N 12) (N 13) (N 14) (N 15) (N 16) (N 17) (N 18) (N 19) (N 20) (N 21) (N 22) (N 23) (N 24) (N 25) (N 26) (N 27) (N 28), arI X (d 1) 122 w])) ([.ref (d 0), .int (iI i), .int (iI a)] : List Value).toArray s9 0 0 A9) (F0 m9 34 ls []) := by
        intro n
        induction n with
        | zero => intro K G ct hn; exact absurd hn (Nat.not_lt_zero _)
        | succ n ih34 =>
          intro K G ct hn34 iv34_0 iv34_1 iv34_2 iv34_3 H locs ls hw hl
          obtain ⟨hs0, hs1, hs2⟩ := id iv34_1
          have hs3 := hs0.1
          have hs4 := hs0.2.2.1
          have hs5 := hs0.2.1
          refine lv_aload_n Ex Eb dX8_paymentsTo_34 rfl (lv_at hl 0 rfl) ?_
          refine lo_get E hK hw huRX8 12 hf78 rfl 0 rfl rfl (by decide) (v := .long (iL (K 12))) rfl dX8_paymentsTo_35 ?_
          refine lv_iload_n Ex Eb dX8_paymentsTo_38 rfl (lv_at hl 2 rfl) ?_
          refine lo_i2l E dX8_paymentsTo_39 (by omega) ?_
          refine lo_lcmp E dX8_paymentsTo_40 (by omega) (by omega) (fun zc7 rzc7 dzc7 => ?_)
          refine lo_if_le (tgt := 75) E dX8_paymentsTo_41 (by decide) (by omega) (fun c8 => ?_) (fun c8 => ?_)
          · skip
            refine lv_iload_n Ex Eb dX8_paymentsTo_75 rfl (lv_at hl 3 rfl) ?_
            exact lo_iret E hRt hLk hK hAe hw dX8_paymentsTo_76 rfl ⟨K, ct, (by first | exact sameP_t | exact iv34_0.1), (by first | (refine Or.inl ⟨iv34_0.2, by omega, by omega, ?_⟩; rw [← iv34_3, untL_e (by omega)]; omega) | (simp only [uI_s, and_true]; omega)), rfl, rfl⟩
          · skip
            have hs6 := hs2 (by omega)
            have hs7 := SR_s iv34_1 (by omega)
            have hm3 := hLi.2.2.2.1
            change 0 ≤ wOf w i 3 ∧ wOf w i 3 ≤ 120 at hm3
            refine lv_aload_n Ex Eb dX8_paymentsTo_44 rfl (lv_at hl 0 rfl) ?_
            refine lv_aload_n Ex Eb dX8_paymentsTo_45 rfl (lv_at hl 0 rfl) ?_
            refine lv_iload_n Ex Eb dX8_paymentsTo_46 rfl (lv_at hl 1 rfl) ?_
            refine lv_iconst (v := iI 2) Ex Eb dX8_paymentsTo_47 rfl ?_
            refine lo_callV (q0 := 0) (rest := [.ref (d 0)]) E hK hw (kX8_of l X d K w i 2 (by omega) (by omega)) (cwV 2 E.2.2.2.2 gX8_paymentsTo_X8_of rfl rfl rfl (by decide +kernel) ⟨Nat.le_of_ble_eq_true rfl, Nat.le_of_ble_eq_true rfl⟩) rfl rfl [0, 1] rfl (by decide) hl.1 rfl rfl (Nat.le_of_ble_eq_true rfl) dX8_paymentsTo_48 ⟨Nat.le_of_ble_eq_true rfl, Nat.le_of_ble_eq_true rfl⟩ (fun v w1 H locs hq hw => ?_)
            obtain ⟨rfl, rfl⟩ := hq
            have hw : lo_Wd X ([oX8 (d 0) (K 0) (d 1) (d 2) (K 3) (d 3) (K 5) (d 4) (d 5) (d 6) (K 9) (d 7) (K 11) (K 12) (K 13) (K 14) (K 15) (K 16) (K 17) (K 18) (K 19) (K 20) (K 21) (K 22) (K 23) (K 24) (K 25) (K 26) (K 27) (K 28), arI X (d 1) 122 w]) A9 s9.heap H locs := hw
            refine W.eq (g2 := F0 m9 51 ls [.int (iI (wOf w i 2)), .ref (d 0)]) rfl ?_
            refine lv_aload_n Ex Eb dX8_paymentsTo_51 rfl (lv_at hl 0 rfl) ?_
            refine lv_iload_n Ex Eb dX8_paymentsTo_52 rfl (lv_at hl 1 rfl) ?_
            refine lv_iconst (v := iI 4) Ex Eb dX8_paymentsTo_53 rfl ?_
            refine lo_callV (q0 := 0) (rest := [.int (iI (wOf w i 2)), .ref (d 0)]) E hK hw (kX8_of l X d K w i 4 (by omega) (by omega)) (cwV 2 E.2.2.2.2 gX8_paymentsTo_X8_of rfl rfl rfl (by decide +kernel) ⟨Nat.le_of_ble_eq_true rfl, Nat.le_of_ble_eq_true rfl⟩) rfl rfl [0, 1] rfl (by decide) hl.1 rfl rfl (Nat.le_of_ble_eq_true rfl) dX8_paymentsTo_54 ⟨Nat.le_of_ble_eq_true rfl, Nat.le_of_ble_eq_true rfl⟩ (fun v w1 H locs hq hw => ?_)
            obtain ⟨rfl, rfl⟩ := hq
            have hw : lo_Wd X ([oX8 (d 0) (K 0) (d 1) (d 2) (K 3) (d 3) (K 5) (d 4) (d 5) (d 6) (K 9) (d 7) (K 11) (K 12) (K 13) (K 14) (K 15) (K 16) (K 17) (K 18) (K 19) (K 20) (K 21) (K 22) (K 23) (K 24) (K 25) (K 26) (K 27) (K 28), arI X (d 1) 122 w]) A9 s9.heap H locs := hw
            refine W.eq (g2 := F0 m9 57 ls [.int (iI (wOf w i 4)), .int (iI (wOf w i 2)), .ref (d 0)]) rfl ?_
            refine lo_i2l E dX8_paymentsTo_57 (by omega) ?_
            refine lv_aload_n Ex Eb dX8_paymentsTo_58 rfl (lv_at hl 0 rfl) ?_
            refine lv_iload_n Ex Eb dX8_paymentsTo_59 rfl (lv_at hl 1 rfl) ?_
            refine lv_iconst (v := iI 3) Ex Eb dX8_paymentsTo_60 rfl ?_
            refine lo_callV (q0 := 0) (rest := [.long (iL (wOf w i 4)), .int (iI (wOf w i 2)), .ref (d 0)]) E hK hw (kX8_of l X d K w i 3 (by omega) (by omega)) (cwV 2 E.2.2.2.2 gX8_paymentsTo_X8_of rfl rfl rfl (by decide +kernel) ⟨Nat.le_of_ble_eq_true rfl, Nat.le_of_ble_eq_true rfl⟩) rfl rfl [0, 1] rfl (by decide) hl.1 rfl rfl (Nat.le_of_ble_eq_true rfl) dX8_paymentsTo_61 ⟨Nat.le_of_ble_eq_true rfl, Nat.le_of_ble_eq_true rfl⟩ (fun v w1 H locs hq hw => ?_)
            obtain ⟨rfl, rfl⟩ := hq
            have hw : lo_Wd X ([oX8 (d 0) (K 0) (d 1) (d 2) (K 3) (d 3) (K 5) (d 4) (d 5) (d 6) (K 9) (d 7) (K 11) (K 12) (K 13) (K 14) (K 15) (K 16) (K 17) (K 18) (K 19) (K 20) (K 21) (K 22) (K 23) (K 24) (K 25) (K 26) (K 27) (K 28), arI X (d 1) 122 w]) A9 s9.heap H locs := hw
            refine W.eq (g2 := F0 m9 64 ls [.int (iI (wOf w i 3)), .long (iL (wOf w i 4)), .int (iI (wOf w i 2)), .ref (d 0)]) rfl ?_
            refine lv_iload_n Ex Eb dX8_paymentsTo_64 rfl (lv_at hl 3 rfl) ?_
            refine lo_isub E dX8_paymentsTo_65 ?_
            refine lo_callV (q0 := 0) (rest := []) E hK hw (kX8_step l X d K (wOf w i 2) (wOf w i 4) (wOf w i 3 - ct) (by omega) (by omega) (by omega) (by omega) (by omega)) (cwV 3 E.2.2.2.2 gX8_paymentsTo_X8_step rfl rfl rfl (by decide +kernel) ⟨Nat.le_of_ble_eq_true rfl, Nat.le_of_ble_eq_true rfl⟩) rfl rfl [0] rfl (by decide) hl.1 rfl rfl (Nat.le_of_ble_eq_true rfl) dX8_paymentsTo_66 ⟨Nat.le_of_ble_eq_true rfl, Nat.le_of_ble_eq_true rfl⟩ (fun v w1 H locs hq hw => ?_)
            obtain ⟨rfl, rfl⟩ := hq
            have hw : lo_Wd X ([oX8 (d 0) (stM K (wOf w i 2) (wOf w i 4) (wOf w i 3 - ct) 0) (d 1) (d 2) (stM K (wOf w i 2) (wOf w i 4) (wOf w i 3 - ct) 3) (d 3) (stM K (wOf w i 2) (wOf w i 4) (wOf w i 3 - ct) 5) (d 4) (d 5) (d 6) (stM K (wOf w i 2) (wOf w i 4) (wOf w i 3 - ct) 9) (d 7) (stM K (wOf w i 2) (wOf w i 4) (wOf w i 3 - ct) 11) (stM K (wOf w i 2) (wOf w i 4) (wOf w i 3 - ct) 12) (stM K (wOf w i 2) (wOf w i 4) (wOf w i 3 - ct) 13) (stM K (wOf w i 2) (wOf w i 4) (wOf w i 3 - ct) 14) (stM K (wOf w i 2) (wOf w i 4) (wOf w i 3 - ct) 15) (stM K (wOf w i 2) (wOf w i 4) (wOf w i 3 - ct) 16) (stM K (wOf w i 2) (wOf w i 4) (wOf w i 3 - ct) 17) (stM K (wOf w i 2) (wOf w i 4) (wOf w i 3 - ct) 18) (stM K (wOf w i 2) (wOf w i 4) (wOf w i 3 - ct) 19) (stM K (wOf w i 2) (wOf w i 4) (wOf w i 3 - ct) 20) (stM K (wOf w i 2) (wOf w i 4) (wOf w i 3 - ct) 21) (stM K (wOf w i 2) (wOf w i 4) (wOf w i 3 - ct) 22) (stM K (wOf w i 2) (wOf w i 4) (wOf w i 3 - ct) 23) (stM K (wOf w i 2) (wOf w i 4) (wOf w i 3 - ct) 24) (stM K (wOf w i 2) (wOf w i 4) (wOf w i 3 - ct) 25) (stM K (wOf w i 2) (wOf w i 4) (wOf w i 3 - ct) 26) (stM K (wOf w i 2) (wOf w i 4) (wOf w i 3 - ct) 27) (stM K (wOf w i 2) (wOf w i 4) (wOf w i 3 - ct) 28), arI X (d 1) 122 w]) A9 s9.heap H locs := hw
            refine W.eq (g2 := F0 m9 69 ls []) rfl ?_
            refine lo_iinc (lv' := [(3, .int (iI (ct + 1))), (0, .ref (d 0)), (1, .int (iI i)), (2, .int (iI a))]) E dX8_paymentsTo_69 hl (k := 3) rfl (by decide) rfl (fun ls hl => ?_)
            refine lv_goto (tgt := 34) Ex Eb dX8_paymentsTo_72 (by decide) ?_
            exact ih34 (stM K (wOf w i 2) (wOf w i 4) (wOf w i 3 - ct)) (payL G) (ct + 1) (by omega) (⟨iv34_0.1.tr (sameP_s (stM_same _ _ _ _)), (sameW_0 (stM_same _ _ _ _)).trans iv34_0.2⟩) (by rw [show wOf w i 3 - (ct + 1) = wOf w i 3 - ct - 1 by omega]; exact hs7.1) (by omega) (by rw [← iv34_3, show (120 - ct).toNat = (120 - (ct + 1)).toNat + 1 by omega, untL_s (by omega)]; omega) _ _ _ hw (lv_sub hl [1, 2, 3, 0] rfl)
      exact lp34 _ (bgM (uI M 0 t5) (wOf w i 1) (wOf w i 5)) (WL w i) 0 (Nat.lt_succ_self _) (⟨sameP_w (bgM_same _ _ _), (sameW_0 (bgM_same _ _ _)).trans (uI_s.trans (by omega))⟩) (by rw [show wOf w i 3 - 0 = wOf w i 3 by omega]; exact SR_0 hLi) (by omega) (by rw [show (120 - (0:Int)).toNat = 120 by omega]; omega) _ _ _ hw (lv_sub hl [1, 2, 3, 0] rfl)
    · skip
      refine lv_iconst (v := iI 0) Ex Eb dX8_paymentsTo_25 rfl ?_
      exact lo_iret E hRt hLk hK hAe hw dX8_paymentsTo_26 rfl ⟨uI M 0 t5, 0, (by first | exact sameP_t | exact iv34_0.1), (by first | (refine Or.inl ⟨iv34_0.2, by omega, by omega, ?_⟩; rw [← iv34_3, untL_e (by omega)]; omega) | (simp only [uI_s, and_true]; omega)), rfl, rfl⟩
