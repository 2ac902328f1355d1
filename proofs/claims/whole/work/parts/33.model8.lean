set_option maxHeartbeats 4000000 in
set_option maxRecDepth 100000 in
theorem kX8_isCheaper (l : Launch) (X : KX) (d : Nat → Nat) (M w g : Nat → Int) (i q a : Int) (hWI : WI w) (hi : i32 i) (ha : i32 a) (hq9 : i32 q) : CM l X yX8_isCheaper wsX8_isCheaper ({ frames := 6, cells := 0, slots := 0, locals := 151 }) [.ref (d 0), .int (iI i), .int (iI q), .int (iI a)] ([oX8 (d 0) (M 0) (d 1) (d 2) (M 3) (d 3) (M 5) (d 4) (d 5) (d 6) (M 9) (d 7) (M 11) (M 12) (M 13) (M 14) (M 15) (M 16) (M 17) (M 18) (M 19) (M 20) (M 21) (M 22) (M 23) (M 24) (M 25) (M 26) (M 27) (M 28), arI X (d 1) 122 w, arI X (d 5) 122 g]) (fun v9 w9 => ∃ N : Nat → Int, ∃ g9 : Nat → Int, ∃ r : Int, (sameP M N) ∧ ((N 0 = 0 ∧ (0 ≤ i ∧ i < w 0) ∧ ((0 ≤ q ∧ q ≤ 3000) ∧ 1 ≤ a ∧ a ≤ 120) ∧ ((0 < wOf w i 1 ∧ ((r = 1 ∧ (runL 120 (WL (wSet w i q a) i) 6 - wOf (wSet w i q a) i 6) < (runL 120 (WL w i) 6 - wOf w i 6)) ∨ (r = 0 ∧ ¬ ((runL 120 (WL (wSet w i q a) i) 6 - wOf (wSet w i q a) i 6) < (runL 120 (WL w i) 6 - wOf w i 6))))) ∨ (wOf w i 1 ≤ 0 ∧ r = 0))) ∨ (N 0 = 1 ∧ ¬ (0 ≤ i ∧ i < w 0)) ∨ (N 0 = 2 ∧ (0 ≤ i ∧ i < w 0) ∧ ¬ ((0 ≤ q ∧ q ≤ 3000) ∧ 1 ≤ a ∧ a ≤ 120))) ∧ v9 = some (.int (iI r)) ∧ w9 = [oX8 (d 0) (N 0) (d 1) (d 2) (N 3) (d 3) (N 5) (d 4) (d 5) (d 6) (N 9) (d 7) (N 11) (N 12) (N 13) (N 14) (N 15) (N 16) (N 17) (N 18) (N 19) (N 20) (N 21) (N 22) (N 23) (N 24) (N 25) (N 26) (N 27) (N 28), arI X (d 1) 122 w, arI X (d 5) 122 g9]) 0 0 := by
  refine lo_enter (cc := cX8_isCheaper) (maxL := 6) (ret := (some .boolean)) (lv := [(0, .ref (d 0)), (1, .int (iI i)), (2, .int (iI q)), (3, .int (iI a))]) (by decide) rfl rfl (Nat.le_of_ble_eq_true rfl) ?_
  intro p9 e9 s9 m9 bl9 me9 c9 A9 ls hAe E hRt hLk hK hl hw
  have Ex := E.1
  have Eb := E.2.1
  have huRX8 : ∀ w ∈ u_ws RX8 TX8 29, w ∈ wsX8_isCheaper := by decide +kernel
  have hf56 : (Cond.fieldLink RX8 56 "LoanScheduleModel" "thrown" "I").before _ s9 = true := E.2.2.2.2 _ (List.mem_of_getElem? (i := 1) rfl)
  have hf9 : (Cond.fieldLink RX8 9 "LoanScheduleModel" "w" "[I").before _ s9 = true := E.2.2.2.2 _ (List.mem_of_getElem? (i := 2) rfl)
  have hf24 : (Cond.fieldLink RX8 24 "LoanScheduleModel" "aside" "[I").before _ s9 = true := E.2.2.2.2 _ (List.mem_of_getElem? (i := 3) rfl)
  obtain ⟨⟨hn0, hn1⟩, ⟨hb0, hb1⟩, hL⟩ := id hWI
  refine lv_aload_n Ex Eb dX8_isCheaper_0 rfl (lv_at hl 0 rfl) ?_
  refine lv_iconst (v := iI 0) Ex Eb dX8_isCheaper_1 rfl ?_
  refine lo_put E hK hw huRX8 tyX8 tyX8_ok nmX8 0 hf56 rfl 0 rfl rfl (by decide) rfl rfl rfl rfl (Nat.le_of_ble_eq_true rfl) (ws' := [oX8 (d 0) 0 (d 1) (d 2) (M 3) (d 3) (M 5) (d 4) (d 5) (d 6) (M 9) (d 7) (M 11) (M 12) (M 13) (M 14) (M 15) (M 16) (M 17) (M 18) (M 19) (M 20) (M 21) (M 22) (M 23) (M 24) (M 25) (M 26) (M 27) (M 28), arI X (d 1) 122 w, arI X (d 5) 122 g]) rfl dX8_isCheaper_2 (fun H locs hw => ?_)
  refine lv_aload_n Ex Eb dX8_isCheaper_5 rfl (lv_at hl 0 rfl) ?_
  refine lv_iload_n Ex Eb dX8_isCheaper_6 rfl (lv_at hl 1 rfl) ?_
  refine lo_callV (q0 := 0) (rest := []) E hK hw (kX8_noLoan l X d (uI M 0 0) w i (hWI) (by omega)) (cwV 1 E.2.2.2.2 gX8_isCheaper_X8_noLoan rfl rfl rfl (by decide +kernel) ⟨Nat.le_of_ble_eq_true rfl, Nat.le_of_ble_eq_true rfl⟩) rfl rfl [0, 1] rfl (by decide) hl.1 rfl rfl (Nat.le_of_ble_eq_true rfl) dX8_isCheaper_7 ⟨Nat.le_of_ble_eq_true rfl, Nat.le_of_ble_eq_true rfl⟩ (fun v w1 H locs hq hw => ?_)
  obtain ⟨z1, t2, q7_0, rfl, rfl⟩ := hq
  change (z1 = 0 ∧ t2 = 0 ∧ 0 ≤ i ∧ i < w 0) ∨ (z1 = 1 ∧ t2 = 1 ∧ ¬ (0 ≤ i ∧ i < w 0)) at q7_0
  have hw : lo_Wd X ([oX8 (d 0) t2 (d 1) (d 2) (M 3) (d 3) (M 5) (d 4) (d 5) (d 6) (M 9) (d 7) (M 11) (M 12) (M 13) (M 14) (M 15) (M 16) (M 17) (M 18) (M 19) (M 20) (M 21) (M 22) (M 23) (M 24) (M 25) (M 26) (M 27) (M 28), arI X (d 1) 122 w, arI X (d 5) 122 g]) A9 s9.heap H locs := hw
  refine W.eq (g2 := F0 m9 10 ls [.int (iI z1)]) rfl ?_
  refine lo_if_ne (tgt := 30) E dX8_isCheaper_10 (by decide) (by omega) (fun c3 => ?_) (fun c3 => ?_)
  · skip
    refine lv_iconst (v := iI 0) Ex Eb dX8_isCheaper_30 rfl ?_
    exact lo_zret E hRt hLk hK hAe hw dX8_isCheaper_31 rfl rfl ⟨uI M 0 t2, g, 0, (by first | exact sameP_t | exact ((sameP_w (ahM_same _ w i)).tr (sameP_s q54_0)).tr (sameP_s (ahM_same _ _ i))), (by first | (refine Or.inl ⟨(sameW_0 (ahM_same _ _ i)).trans ((sameW_0 q54_0).trans ((sameW_0 (ahM_same _ w i)).trans (uI_s.trans (by omega)))), by omega, by omega, Or.inl ⟨by omega, by omega⟩⟩) | (simp only [uI_s, and_true]; omega)), rfl, rfl⟩
  · skip
    refine lv_aload_n Ex Eb dX8_isCheaper_13 rfl (lv_at hl 0 rfl) ?_
    refine lv_iload_n Ex Eb dX8_isCheaper_14 rfl (lv_at hl 2 rfl) ?_
    refine lv_iload_n Ex Eb dX8_isCheaper_15 rfl (lv_at hl 3 rfl) ?_
    refine lo_callV (q0 := 0) (rest := []) E hK hw (kX8_badTerms l X d (uI M 0 t2) q a (by omega) (by omega)) (cwV 2 E.2.2.2.2 gX8_isCheaper_X8_badTerms rfl rfl rfl (by decide +kernel) ⟨Nat.le_of_ble_eq_true rfl, Nat.le_of_ble_eq_true rfl⟩) rfl rfl [0] rfl (by decide) hl.1 rfl rfl (Nat.le_of_ble_eq_true rfl) dX8_isCheaper_16 ⟨Nat.le_of_ble_eq_true rfl, Nat.le_of_ble_eq_true rfl⟩ (fun v w1 H locs hq hw => ?_)
    obtain ⟨z4, t5, q16_0, rfl, rfl⟩ := hq
    change (z4 = 0 ∧ t5 = t2 ∧ (0 ≤ q ∧ q ≤ 3000) ∧ 1 ≤ a ∧ a ≤ 120) ∨ (z4 = 1 ∧ t5 = 2 ∧ ¬ ((0 ≤ q ∧ q ≤ 3000) ∧ 1 ≤ a ∧ a ≤ 120)) at q16_0
    have hw : lo_Wd X ([oX8 (d 0) t5 (d 1) (d 2) (M 3) (d 3) (M 5) (d 4) (d 5) (d 6) (M 9) (d 7) (M 11) (M 12) (M 13) (M 14) (M 15) (M 16) (M 17) (M 18) (M 19) (M 20) (M 21) (M 22) (M 23) (M 24) (M 25) (M 26) (M 27) (M 28), arI X (d 1) 122 w, arI X (d 5) 122 g]) A9 s9.heap H locs := hw
    refine W.eq (g2 := F0 m9 19 ls [.int (iI z4)]) rfl ?_
    refine lo_if_ne (tgt := 30) E dX8_isCheaper_19 (by decide) (by omega) (fun c6 => ?_) (fun c6 => ?_)
    · skip
      refine lv_iconst (v := iI 0) Ex Eb dX8_isCheaper_30 rfl ?_
      exact lo_zret E hRt hLk hK hAe hw dX8_isCheaper_31 rfl rfl ⟨uI M 0 t5, g, 0, (by first | exact sameP_t | exact ((sameP_w (ahM_same _ w i)).tr (sameP_s q54_0)).tr (sameP_s (ahM_same _ _ i))), (by first | (refine Or.inl ⟨(sameW_0 (ahM_same _ _ i)).trans ((sameW_0 q54_0).trans ((sameW_0 (ahM_same _ w i)).trans (uI_s.trans (by omega)))), by omega, by omega, Or.inl ⟨by omega, by omega⟩⟩) | (simp only [uI_s, and_true]; omega)), rfl, rfl⟩
    · skip
      have hLi := hL i (by omega) (by omega)
      have hW1 := WI_1 hWI (i := i) (by omega) (by omega)
      have hc5 : 0 ≤ wOf w i 5 ∧ wOf w i 5 < 120000 := hLi.2.2.1
      have hi4 : 0 ≤ wOf w i 4 ∧ wOf w i 4 ≤ 10249999 := hLi.2.2.2.2.1
      refine lv_aload_n Ex Eb dX8_isCheaper_22 rfl (lv_at hl 0 rfl) ?_
      refine lv_iload_n Ex Eb dX8_isCheaper_23 rfl (lv_at hl 1 rfl) ?_
      refine lo_callV (q0 := 0) (rest := []) E hK hw (kX8_isRunning l X d (uI M 0 t5) w i (by omega) (by omega)) (cwV 1 E.2.2.2.2 gX8_isCheaper_X8_isRunning rfl rfl rfl (by decide +kernel) ⟨Nat.le_of_ble_eq_true rfl, Nat.le_of_ble_eq_true rfl⟩) rfl rfl [0, 1] rfl (by decide) hl.1 rfl rfl (Nat.le_of_ble_eq_true rfl) dX8_isCheaper_24 ⟨Nat.le_of_ble_eq_true rfl, Nat.le_of_ble_eq_true rfl⟩ (fun v w1 H locs hq hw => ?_)
      obtain ⟨r7, q24_0, rfl, rfl⟩ := hq
      have hw : lo_Wd X ([oX8 (d 0) t5 (d 1) (d 2) (M 3) (d 3) (M 5) (d 4) (d 5) (d 6) (M 9) (d 7) (M 11) (M 12) (M 13) (M 14) (M 15) (M 16) (M 17) (M 18) (M 19) (M 20) (M 21) (M 22) (M 23) (M 24) (M 25) (M 26) (M 27) (M 28), arI X (d 1) 122 w, arI X (d 5) 122 g]) A9 s9.heap H locs := hw
      refine W.eq (g2 := F0 m9 27 ls [.int (iI r7)]) rfl ?_
      refine lo_if_ne (tgt := 32) E dX8_isCheaper_27 (by decide) (by omega) (fun c8 => ?_) (fun c8 => ?_)
      · skip
        have hLu2 := WR_LI (wSet_R (w := w) (i := i) (r := q) (m := a) (by omega)) (setL_LI hLi (by show 0 < wOf w i 1; omega) (by omega) (by omega) (by omega) (by omega))
        have hr1 := runL_6 120 (WL w i) hLi
        have hr2 := runL_6 120 (WL (wSet w i q a) i) hLu2
        refine lv_aload_n Ex Eb dX8_isCheaper_32 rfl (lv_at hl 0 rfl) ?_
        refine lo_get E hK hw huRX8 1 hf9 rfl 0 rfl rfl (by decide) (v := .ref (d 1)) rfl dX8_isCheaper_33 ?_
        refine lv_aload_n Ex Eb dX8_isCheaper_36 rfl (lv_at hl 0 rfl) ?_
        refine lo_get E hK hw huRX8 7 hf24 rfl 0 rfl rfl (by decide) (v := .ref (d 5)) rfl dX8_isCheaper_37 ?_
        refine lo_callS (rest := []) E hK hw (kX8_copy l X (d 1) (d 5) w g ) (cwS 2 E.2.2.2.2 gX8_isCheaper_X8_copy rfl rfl rfl (by decide +kernel) ⟨Nat.le_of_ble_eq_true rfl, Nat.le_of_ble_eq_true rfl⟩) [1, 2] rfl (by decide) hl.1 rfl rfl (Nat.le_of_ble_eq_true rfl) dX8_isCheaper_40 ⟨Nat.le_of_ble_eq_true rfl, Nat.le_of_ble_eq_true rfl⟩ (fun v w1 H locs hq hw => ?_)
        obtain ⟨rfl, rfl⟩ := hq
        have hw : lo_Wd X ([oX8 (d 0) t5 (d 1) (d 2) (M 3) (d 3) (M 5) (d 4) (d 5) (d 6) (M 9) (d 7) (M 11) (M 12) (M 13) (M 14) (M 15) (M 16) (M 17) (M 18) (M 19) (M 20) (M 21) (M 22) (M 23) (M 24) (M 25) (M 26) (M 27) (M 28), arI X (d 1) 122 w, arI X (d 5) 122 w]) A9 s9.heap H locs := hw
        refine W.eq (g2 := F0 m9 43 ls []) rfl ?_
        refine lv_aload_n Ex Eb dX8_isCheaper_43 rfl (lv_at hl 0 rfl) ?_
        refine lv_iload_n Ex Eb dX8_isCheaper_44 rfl (lv_at hl 1 rfl) ?_
        refine lo_callV (q0 := 0) (rest := []) E hK hw (kX8_costAhead l X d (uI M 0 t5) w i (by omega) (hLi)) (cwV 1 E.2.2.2.2 gX8_isCheaper_X8_costAhead rfl rfl rfl (by decide +kernel) ⟨Nat.le_of_ble_eq_true rfl, Nat.le_of_ble_eq_true rfl⟩) rfl rfl [0, 1] rfl (by decide) hl.1 rfl rfl (Nat.le_of_ble_eq_true rfl) dX8_isCheaper_45 ⟨Nat.le_of_ble_eq_true rfl, Nat.le_of_ble_eq_true rfl⟩ (fun v w1 H locs hq hw => ?_)
        obtain ⟨rfl, rfl⟩ := hq
        have hw : lo_Wd X ([oX8 (d 0) (ahM (uI M 0 t5) w i 0) (d 1) (d 2) (ahM (uI M 0 t5) w i 3) (d 3) (ahM (uI M 0 t5) w i 5) (d 4) (d 5) (d 6) (ahM (uI M 0 t5) w i 9) (d 7) (ahM (uI M 0 t5) w i 11) (ahM (uI M 0 t5) w i 12) (ahM (uI M 0 t5) w i 13) (ahM (uI M 0 t5) w i 14) (ahM (uI M 0 t5) w i 15) (ahM (uI M 0 t5) w i 16) (ahM (uI M 0 t5) w i 17) (ahM (uI M 0 t5) w i 18) (ahM (uI M 0 t5) w i 19) (ahM (uI M 0 t5) w i 20) (ahM (uI M 0 t5) w i 21) (ahM (uI M 0 t5) w i 22) (ahM (uI M 0 t5) w i 23) (ahM (uI M 0 t5) w i 24) (ahM (uI M 0 t5) w i 25) (ahM (uI M 0 t5) w i 26) (ahM (uI M 0 t5) w i 27) (ahM (uI M 0 t5) w i 28), arI X (d 1) 122 w, arI X (d 5) 122 w]) A9 s9.heap H locs := hw
        refine W.eq (g2 := F0 m9 48 ls [.int (iI (ahM (uI M 0 t5) w i 17))]) rfl ?_
        refine lv_istore (lv' := [(4, .int (iI (ahM (uI M 0 t5) w i 17))), (0, .ref (d 0)), (1, .int (iI i)), (2, .int (iI q)), (3, .int (iI a))]) Ex Eb dX8_isCheaper_48 hl (by decide) rfl (fun ls hl => ?_)
        refine lv_aload_n Ex Eb dX8_isCheaper_50 rfl (lv_at hl 1 rfl) ?_
        refine lv_iload_n Ex Eb dX8_isCheaper_51 rfl (lv_at hl 2 rfl) ?_
        refine lv_iload_n Ex Eb dX8_isCheaper_52 rfl (lv_at hl 3 rfl) ?_
        refine lv_iload_n Ex Eb dX8_isCheaper_53 rfl (lv_at hl 4 rfl) ?_
        refine lo_callV (q0 := 0) (rest := []) E hK hw (kX8_setTerms l X d (ahM (uI M 0 t5) w i) w i q a (by omega) (hLi) (by omega) (by omega) (by omega)) (cwV 3 E.2.2.2.2 gX8_isCheaper_X8_setTerms rfl rfl rfl (by decide +kernel) ⟨Nat.le_of_ble_eq_true rfl, Nat.le_of_ble_eq_true rfl⟩) rfl rfl [0, 1] rfl (by decide) hl.1 rfl rfl (Nat.le_of_ble_eq_true rfl) dX8_isCheaper_54 ⟨Nat.le_of_ble_eq_true rfl, Nat.le_of_ble_eq_true rfl⟩ (fun v w1 H locs hq hw => ?_)
        obtain ⟨N9, q54_0, rfl, rfl⟩ := hq
        have hw : lo_Wd X ([oX8 (d 0) (N9 0) (d 1) (d 2) (N9 3) (d 3) (N9 5) (d 4) (d 5) (d 6) (N9 9) (d 7) (N9 11) (N9 12) (N9 13) (N9 14) (N9 15) (N9 16) (N9 17) (N9 18) (N9 19) (N9 20) (N9 21) (N9 22) (N9 23) (N9 24) (N9 25) (N9 26) (N9 27) (N9 28), arI X (d 1) 122 (wSet w i q a), arI X (d 5) 122 w]) A9 s9.heap H locs := hw
        refine W.eq (g2 := F0 m9 57 ls []) rfl ?_
        refine lv_aload_n Ex Eb dX8_isCheaper_57 rfl (lv_at hl 1 rfl) ?_
        refine lv_iload_n Ex Eb dX8_isCheaper_58 rfl (lv_at hl 2 rfl) ?_
        refine lo_callV (q0 := 0) (rest := []) E hK hw (kX8_costAhead l X d N9 (wSet w i q a) i (by omega) (hLu2)) (cwV 1 E.2.2.2.2 gX8_isCheaper_X8_costAhead rfl rfl rfl (by decide +kernel) ⟨Nat.le_of_ble_eq_true rfl, Nat.le_of_ble_eq_true rfl⟩) rfl rfl [0, 1] rfl (by decide) hl.1 rfl rfl (Nat.le_of_ble_eq_true rfl) dX8_isCheaper_59 ⟨Nat.le_of_ble_eq_true rfl, Nat.le_of_ble_eq_true rfl⟩ (fun v w1 H locs hq hw => ?_)
        obtain ⟨rfl, rfl⟩ := hq
        have hw : lo_Wd X ([oX8 (d 0) (ahM N9 (wSet w i q a) i 0) (d 1) (d 2) (ahM N9 (wSet w i q a) i 3) (d 3) (ahM N9 (wSet w i q a) i 5) (d 4) (d 5) (d 6) (ahM N9 (wSet w i q a) i 9) (d 7) (ahM N9 (wSet w i q a) i 11) (ahM N9 (wSet w i q a) i 12) (ahM N9 (wSet w i q a) i 13) (ahM N9 (wSet w i q a) i 14) (ahM N9 (wSet w i q a) i 15) (ahM N9 (wSet w i q a) i 16) (ahM N9 (wSet w i q a) i 17) (ahM N9 (wSet w i q a) i 18) (ahM N9 (wSet w i q a) i 19) (ahM N9 (wSet w i q a) i 20) (ahM N9 (wSet w i q a) i 21) (ahM N9 (wSet w i q a) i 22) (ahM N9 (wSet w i q a) i 23) (ahM N9 (wSet w i q a) i 24) (ahM N9 (wSet w i q a) i 25) (ahM N9 (wSet w i q a) i 26) (ahM N9 (wSet w i q a) i 27) (ahM N9 (wSet w i q a) i 28), arI X (d 1) 122 (wSet w i q a), arI X (d 5) 122 w]) A9 s9.heap H locs := hw
        refine W.eq (g2 := F0 m9 62 ls [.int (iI (ahM N9 (wSet w i q a) i 17))]) rfl ?_
        refine lv_istore (lv' := [(5, .int (iI (ahM N9 (wSet w i q a) i 17))), (4, .int (iI (ahM (uI M 0 t5) w i 17))), (0, .ref (d 0)), (1, .int (iI i)), (2, .int (iI q)), (3, .int (iI a))]) Ex Eb dX8_isCheaper_62 hl (by decide) rfl (fun ls hl => ?_)
        refine lv_aload_n Ex Eb dX8_isCheaper_64 rfl (lv_at hl 2 rfl) ?_
        refine lo_get E hK hw huRX8 7 hf24 rfl 0 rfl rfl (by decide) (v := .ref (d 5)) rfl dX8_isCheaper_65 ?_
        refine lv_aload_n Ex Eb dX8_isCheaper_68 rfl (lv_at hl 2 rfl) ?_
        refine lo_get E hK hw huRX8 1 hf9 rfl 0 rfl rfl (by decide) (v := .ref (d 1)) rfl dX8_isCheaper_69 ?_
        refine lo_callS (rest := []) E hK hw (kX8_copy l X (d 5) (d 1) w (wSet w i q a) ) (cwS 2 E.2.2.2.2 gX8_isCheaper_X8_copy rfl rfl rfl (by decide +kernel) ⟨Nat.le_of_ble_eq_true rfl, Nat.le_of_ble_eq_true rfl⟩) [2, 1] rfl (by decide) hl.1 rfl rfl (Nat.le_of_ble_eq_true rfl) dX8_isCheaper_72 ⟨Nat.le_of_ble_eq_true rfl, Nat.le_of_ble_eq_true rfl⟩ (fun v w1 H locs hq hw => ?_)
        obtain ⟨rfl, rfl⟩ := hq
        have hw : lo_Wd X ([oX8 (d 0) (ahM N9 (wSet w i q a) i 0) (d 1) (d 2) (ahM N9 (wSet w i q a) i 3) (d 3) (ahM N9 (wSet w i q a) i 5) (d 4) (d 5) (d 6) (ahM N9 (wSet w i q a) i 9) (d 7) (ahM N9 (wSet w i q a) i 11) (ahM N9 (wSet w i q a) i 12) (ahM N9 (wSet w i q a) i 13) (ahM N9 (wSet w i q a) i 14) (ahM N9 (wSet w i q a) i 15) (ahM N9 (wSet w i q a) i 16) (ahM N9 (wSet w i q a) i 17) (ahM N9 (wSet w i q a) i 18) (ahM N9 (wSet w i q a) i 19) (ahM N9 (wSet w i q a) i 20) (ahM N9 (wSet w i q a) i 21) (ahM N9 (wSet w i q a) i 22) (ahM N9 (wSet w i q a) i 23) (ahM N9 (wSet w i q a) i 24) (ahM N9 (wSet w i q a) i 25) (ahM N9 (wSet w i q a) i 26) (ahM N9 (wSet w i q a) i 27) (ahM N9 (wSet w i q a) i 28), arI X (d 1) 122 w, arI X (d 5) 122 w]) A9 s9.heap H locs := hw
        refine W.eq (g2 := F0 m9 75 ls []) rfl ?_
        have hv1 := (ahM_120 (M := uI M 0 t5) hLi).2.2.1
        have hv2 := (ahM_120 (M := N9) hLu2).2.2.1
        change _ = runL 120 (WL w i) 6 - wOf w i 6 at hv1
        change _ = runL 120 (WL (wSet w i q a) i) 6 - wOf (wSet w i q a) i 6 at hv2
        change 0 ≤ runL 120 (WL w i) 6 - wOf w i 6 ∧ runL 120 (WL w i) 6 - wOf w i 6 ≤ _ at hr1
        change 0 ≤ runL 120 (WL (wSet w i q a) i) 6 - wOf (wSet w i q a) i 6 ∧ runL 120 (WL (wSet w i q a) i) 6 - wOf (wSet w i q a) i 6 ≤ _ at hr2
        refine lv_iload Ex Eb dX8_isCheaper_75 (lv_at hl 0 rfl) ?_
        refine lv_iload Ex Eb dX8_isCheaper_77 (lv_at hl 1 rfl) ?_
        refine lo_icmp_ge (tgt := 86) E dX8_isCheaper_79 (by decide) (by omega) (by omega) (fun c10 => ?_) (fun c10 => ?_)
        · skip
          refine lv_iconst (v := iI 0) Ex Eb dX8_isCheaper_86 rfl ?_
          exact lo_zret E hRt hLk hK hAe hw dX8_isCheaper_87 rfl rfl ⟨ahM N9 (wSet w i q a) i, w, 0, (by first | exact sameP_t | exact ((sameP_w (ahM_same _ w i)).tr (sameP_s q54_0)).tr (sameP_s (ahM_same _ _ i))), (by first | (refine Or.inl ⟨(sameW_0 (ahM_same _ _ i)).trans ((sameW_0 q54_0).trans ((sameW_0 (ahM_same _ w i)).trans (uI_s.trans (by omega)))), by omega, by omega, Or.inl ⟨by omega, by omega⟩⟩) | (simp only [uI_s, and_true]; omega)), rfl, rfl⟩
        · skip
          refine lv_iconst (v := iI 1) Ex Eb dX8_isCheaper_82 rfl ?_
          refine lv_goto (tgt := 87) Ex Eb dX8_isCheaper_83 (by decide) ?_
          exact lo_zret E hRt hLk hK hAe hw dX8_isCheaper_87 rfl rfl ⟨ahM N9 (wSet w i q a) i, w, 1, (by first | exact sameP_t | exact ((sameP_w (ahM_same _ w i)).tr (sameP_s q54_0)).tr (sameP_s (ahM_same _ _ i))), (by first | (refine Or.inl ⟨(sameW_0 (ahM_same _ _ i)).trans ((sameW_0 q54_0).trans ((sameW_0 (ahM_same _ w i)).trans (uI_s.trans (by omega)))), by omega, by omega, Or.inl ⟨by omega, by omega⟩⟩) | (simp only [uI_s, and_true]; omega)), rfl, rfl⟩
      · skip
        refine lv_iconst (v := iI 0) Ex Eb dX8_isCheaper_30 rfl ?_
        exact lo_zret E hRt hLk hK hAe hw dX8_isCheaper_31 rfl rfl ⟨uI M 0 t5, g, 0, (by first | exact sameP_t | exact ((sameP_w (ahM_same _ w i)).tr (sameP_s q54_0)).tr (sameP_s (ahM_same _ _ i))), (by first | (refine Or.inl ⟨(sameW_0 (ahM_same _ _ i)).trans ((sameW_0 q54_0).trans ((sameW_0 (ahM_same _ w i)).trans (uI_s.trans (by omega)))), by omega, by omega, Or.inl ⟨by omega, by omega⟩⟩) | (simp only [uI_s, and_true]; omega)), rfl, rfl⟩
set_option maxHeartbeats 4000000 in
set_option maxRecDepth 100000 in
theorem kX8_makeLoan (l : Launch) (X : KX) (d : Nat → Nat) (M w : Nat → Int) (a r m : Int) (hWI : WI w) (hw5 : w 0 < 6) (ha : 1 ≤ a ∧ a ≤ 9999999) (hr : 0 ≤ r ∧ r ≤ 3000) (hm : 1 ≤ m ∧ m ≤ 120) : CM l X yX8_makeLoan wsX8_makeLoan ({ frames := 5, cells := 0, slots := 0, locals := 128 }) [.ref (d 0), .int (iI a), .int (iI r), .int (iI m)] ([oX8 (d 0) (M 0) (d 1) (d 2) (M 3) (d 3) (M 5) (d 4) (d 5) (d 6) (M 9) (d 7) (M 11) (M 12) (M 13) (M 14) (M 15) (M 16) (M 17) (M 18) (M 19) (M 20) (M 21) (M 22) (M 23) (M 24) (M 25) (M 26) (M 27) (M 28), arI X (d 1) 122 w]) (fun v9 w9 => ∃ N : Nat → Int, (sameW M N) ∧ v9 = some (.int (iI (w 0))) ∧ w9 = [oX8 (d 0) (N 0) (d 1) (d 2) (N 3) (d 3) (N 5) (d 4) (d 5) (d 6) (N 9) (d 7) (N 11) (N 12) (N 13) (N 14) (N 15) (N 16) (N 17) (N 18) (N 19) (N 20) (N 21) (N 22) (N 23) (N 24) (N 25) (N 26) (N 27) (N 28), arI X (d 1) 122 (wNew w a r m)]) 0 0 := by
  refine lo_enter (cc := cX8_makeLoan) (maxL := 6) (ret := (some .int)) (lv := [(0, .ref (d 0)), (1, .int (iI a)), (2, .int (iI r)), (3, .int (iI m))]) (by decide) rfl rfl (Nat.le_of_ble_eq_true rfl) ?_
  intro p9 e9 s9 m9 bl9 me9 c9 A9 ls hAe E hRt hLk hK hl hw
  have Ex := E.1
  have Eb := E.2.1
  have huRX8 : ∀ w ∈ u_ws RX8 TX8 29, w ∈ wsX8_makeLoan := by decide +kernel
  have hf9 : (Cond.fieldLink RX8 9 "LoanScheduleModel" "w" "[I").before _ s9 = true := E.2.2.2.2 _ (List.mem_of_getElem? (i := 1) rfl)
  obtain ⟨⟨hn0, hn1⟩, ⟨hb0, hb1⟩, hL⟩ := id hWI
  refine lv_aload_n Ex Eb dX8_makeLoan_0 rfl (lv_at hl 0 rfl) ?_
  refine lo_get E hK hw huRX8 1 hf9 rfl 0 rfl rfl (by decide) (v := .ref (d 1)) rfl dX8_makeLoan_1 ?_
  refine lv_iconst (v := iI 0) Ex Eb dX8_makeLoan_4 rfl ?_
  refine lo_iald E hK hw 1 rfl (by omega) dX8_makeLoan_5 ?_
  refine W.eq (g2 := F0 m9 6 ls [.int (iI (w 0))]) rfl ?_
  refine lv_istore (lv' := [(4, .int (iI (w 0))), (0, .ref (d 0)), (1, .int (iI a)), (2, .int (iI r)), (3, .int (iI m))]) Ex Eb dX8_makeLoan_6 hl (by decide) rfl (fun ls hl => ?_)
  refine lv_iconst (v := iI 0) Ex Eb dX8_makeLoan_8 rfl ?_
  refine lv_istore (lv' := [(5, .int (iI 0)), (4, .int (iI (w 0))), (0, .ref (d 0)), (1, .int (iI a)), (2, .int (iI r)), (3, .int (iI m))]) Ex Eb dX8_makeLoan_9 hl (by decide) rfl (fun ls hl => ?_)
  have lp11 : ∀ (n : Nat) (u : Nat → Int) (ix : Int), (10 - ix).toNat < n → (0 ≤ ix ∧ ix ≤ 10) → (u = wZ w (w 0) ix.toNat) → ∀ (H : Heap) (locs : List Loc) (ls : Array Slot), lo_Wd X ([oX8 (d 0) (M 0) (d 1) (d 2) (M 3) (d 3) (M 5) (d 4) (d 5) (d 6) (M 9) (d 7) (M 11) (M 12) (M 13) (M 14) (M 15) (M 16) (M 17) (M 18) (M 19) (M 20) (M 21) (M 22) (M 23) (M 24) (M 25) (M 26) (M 27) (M 28), arI X (d 1) 122 u]) A9 s9.heap H locs → lv_has ls 6 [(0, .ref (d 0)), (1, .int (iI a)), (2, .int (iI r)), (3, .int (iI m)), (4, .int (iI (w 0))), (5, .int (iI ix))] → W p9 l e9 ({ frames := 5, cells := 0, slots := 0, locals := 128 } : Room) s9 m9 ([.ref (d 0), .int (iI a), .int (iI r), .int (iI m)] : List Value).toArray bl9 me9 c9 H locs 0 0 (MQ bl9 (lo_Qc X ([oX8 (d 0) (M 0) (d 1) (d 2) (M 3) (d 3) (M 5) (d 4) (d 5) (d 6) (M 9) (d 7) (M 11) (M 12) (M 13) (M 14) (M 15) (M 16) (M 17) (M 18) (M 19) (M 20) (M 21) (M 22) (M 23) (M 24) (M 25) (M 26) (M 27) (M 28), arI X (d 1) 122 w]) s9.heap.size (fun v9 w9 => ∃ N : Nat → Int, (sameW M N) ∧ v9 = some (.int (iI (w 0))) ∧ w9 = [oX8 (d 0) (N 0) (d 1) (d 2) (N 3) (d 3) (N 5) (d 4) (d 5) (d 6) (N 9) (d 7) (N 11) (N 12) (N 13) (N 14) (N 15) (N 16) (N 17) (N 18) (N 19) (N 20) (N 21) (N 22) (N 23) (N 24) (N 25) (N 26) (N 27) (N 28), arI X (d 1) 122 (wNew w a r m)])) ([.ref (d 0), .int (iI a), .int (iI r), .int (iI m)] : List Value).toArray s9 0 0 A9) (F0 m9 11 ls []) := by
    intro n
    induction n with
    | zero => intro u ix hn; exact absurd hn (Nat.not_lt_zero _)
    | succ n ih11 =>
      intro u ix hn11 iv11_0 iv11_1 H locs ls hw hl
      refine lv_iload Ex Eb dX8_makeLoan_11 (lv_at hl 5 rfl) ?_
      refine lv_bipush (v := iI 10) Ex Eb dX8_makeLoan_13 rfl ?_
      refine lo_icmp_ge (tgt := 33) E dX8_makeLoan_15 (by decide) (by omega) (by omega) (fun c1 => ?_) (fun c1 => ?_)
      · skip
        have hux : u = wZ w (w 0) 10 := by rw [iv11_1, show ix.toNat = 10 by omega]
        rw [hux] at hw
        have hw : lo_Wd X ([oX8 (d 0) (M 0) (d 1) (d 2) (M 3) (d 3) (M 5) (d 4) (d 5) (d 6) (M 9) (d 7) (M 11) (M 12) (M 13) (M 14) (M 15) (M 16) (M 17) (M 18) (M 19) (M 20) (M 21) (M 22) (M 23) (M 24) (M 25) (M 26) (M 27) (M 28), arI X (d 1) 122 (wZ w (w 0) 10)]) A9 s9.heap H locs := hw
        refine lv_aload_n Ex Eb dX8_makeLoan_33 rfl (lv_at hl 0 rfl) ?_
        refine lv_iload Ex Eb dX8_makeLoan_34 (lv_at hl 4 rfl) ?_
        refine lv_iconst (v := iI 0) Ex Eb dX8_makeLoan_36 rfl ?_
        refine lv_iload_n Ex Eb dX8_makeLoan_37 rfl (lv_at hl 1 rfl) ?_
        refine lo_callV (q0 := 0) (rest := []) E hK hw (kX8_put l X d M (wZ w (w 0) 10) (w 0) 0 a (by omega) (by omega)) (cwV 3 E.2.2.2.2 gX8_makeLoan_X8_put rfl rfl rfl (by decide +kernel) ⟨Nat.le_of_ble_eq_true rfl, Nat.le_of_ble_eq_true rfl⟩) rfl rfl [0, 1] rfl (by decide) hl.1 rfl rfl (Nat.le_of_ble_eq_true rfl) dX8_makeLoan_38 ⟨Nat.le_of_ble_eq_true rfl, Nat.le_of_ble_eq_true rfl⟩ (fun v w1 H locs hq hw => ?_)
        obtain ⟨rfl, rfl⟩ := hq
        have hw : lo_Wd X ([oX8 (d 0) (M 0) (d 1) (d 2) (M 3) (d 3) (M 5) (d 4) (d 5) (d 6) (M 9) (d 7) (M 11) (M 12) (M 13) (M 14) (M 15) (M 16) (M 17) (M 18) (M 19) (M 20) (M 21) (M 22) (M 23) (M 24) (M 25) (M 26) (M 27) (M 28), arI X (d 1) 122 (wPut (wZ w (w 0) 10) (w 0) 0 a)]) A9 s9.heap H locs := hw
        refine W.eq (g2 := F0 m9 41 ls []) rfl ?_
        refine lv_aload_n Ex Eb dX8_makeLoan_41 rfl (lv_at hl 0 rfl) ?_
        refine lv_iload Ex Eb dX8_makeLoan_42 (lv_at hl 4 rfl) ?_
        refine lv_iconst (v := iI 1) Ex Eb dX8_makeLoan_44 rfl ?_
        refine lv_iload_n Ex Eb dX8_makeLoan_45 rfl (lv_at hl 1 rfl) ?_
        refine lo_callV (q0 := 0) (rest := []) E hK hw (kX8_put l X d M (wPut (wZ w (w 0) 10) (w 0) 0 a) (w 0) 1 a (by omega) (by omega)) (cwV 3 E.2.2.2.2 gX8_makeLoan_X8_put rfl rfl rfl (by decide +kernel) ⟨Nat.le_of_ble_eq_true rfl, Nat.le_of_ble_eq_true rfl⟩) rfl rfl [0, 1] rfl (by decide) hl.1 rfl rfl (Nat.le_of_ble_eq_true rfl) dX8_makeLoan_46 ⟨Nat.le_of_ble_eq_true rfl, Nat.le_of_ble_eq_true rfl⟩ (fun v w1 H locs hq hw => ?_)
        obtain ⟨rfl, rfl⟩ := hq
        have hw : lo_Wd X ([oX8 (d 0) (M 0) (d 1) (d 2) (M 3) (d 3) (M 5) (d 4) (d 5) (d 6) (M 9) (d 7) (M 11) (M 12) (M 13) (M 14) (M 15) (M 16) (M 17) (M 18) (M 19) (M 20) (M 21) (M 22) (M 23) (M 24) (M 25) (M 26) (M 27) (M 28), arI X (d 1) 122 (wPut (wPut (wZ w (w 0) 10) (w 0) 0 a) (w 0) 1 a)]) A9 s9.heap H locs := hw
        refine W.eq (g2 := F0 m9 49 ls []) rfl ?_
        refine lv_aload_n Ex Eb dX8_makeLoan_49 rfl (lv_at hl 0 rfl) ?_
        refine lv_iload Ex Eb dX8_makeLoan_50 (lv_at hl 4 rfl) ?_
        refine lv_iconst (v := iI 2) Ex Eb dX8_makeLoan_52 rfl ?_
        refine lv_iload_n Ex Eb dX8_makeLoan_53 rfl (lv_at hl 2 rfl) ?_
        refine lo_callV (q0 := 0) (rest := []) E hK hw (kX8_put l X d M (wPut (wPut (wZ w (w 0) 10) (w 0) 0 a) (w 0) 1 a) (w 0) 2 r (by omega) (by omega)) (cwV 3 E.2.2.2.2 gX8_makeLoan_X8_put rfl rfl rfl (by decide +kernel) ⟨Nat.le_of_ble_eq_true rfl, Nat.le_of_ble_eq_true rfl⟩) rfl rfl [0, 1] rfl (by decide) hl.1 rfl rfl (Nat.le_of_ble_eq_true rfl) dX8_makeLoan_54 ⟨Nat.le_of_ble_eq_true rfl, Nat.le_of_ble_eq_true rfl⟩ (fun v w1 H locs hq hw => ?_)
        obtain ⟨rfl, rfl⟩ := hq
        have hw : lo_Wd X ([oX8 (d 0) (M 0) (d 1) (d 2) (M 3) (d 3) (M 5) (d 4) (d 5) (d 6) (M 9) (d 7) (M 11) (M 12) (M 13) (M 14) (M 15) (M 16) (M 17) (M 18) (M 19) (M 20) (M 21) (M 22) (M 23) (M 24) (M 25) (M 26) (M 27) (M 28), arI X (d 1) 122 (wPut (wPut (wPut (wZ w (w 0) 10) (w 0) 0 a) (w 0) 1 a) (w 0) 2 r)]) A9 s9.heap H locs := hw
        refine W.eq (g2 := F0 m9 57 ls []) rfl ?_
        refine lv_aload_n Ex Eb dX8_makeLoan_57 rfl (lv_at hl 0 rfl) ?_
        refine lv_iload Ex Eb dX8_makeLoan_58 (lv_at hl 4 rfl) ?_
        refine lv_iconst (v := iI 3) Ex Eb dX8_makeLoan_60 rfl ?_
        refine lv_iload_n Ex Eb dX8_makeLoan_61 rfl (lv_at hl 3 rfl) ?_
        refine lo_callV (q0 := 0) (rest := []) E hK hw (kX8_put l X d M (wPut (wPut (wPut (wZ w (w 0) 10) (w 0) 0 a) (w 0) 1 a) (w 0) 2 r) (w 0) 3 m (by omega) (by omega)) (cwV 3 E.2.2.2.2 gX8_makeLoan_X8_put rfl rfl rfl (by decide +kernel) ⟨Nat.le_of_ble_eq_true rfl, Nat.le_of_ble_eq_true rfl⟩) rfl rfl [0, 1] rfl (by decide) hl.1 rfl rfl (Nat.le_of_ble_eq_true rfl) dX8_makeLoan_62 ⟨Nat.le_of_ble_eq_true rfl, Nat.le_of_ble_eq_true rfl⟩ (fun v w1 H locs hq hw => ?_)
        obtain ⟨rfl, rfl⟩ := hq
        have hw : lo_Wd X ([oX8 (d 0) (M 0) (d 1) (d 2) (M 3) (d 3) (M 5) (d 4) (d 5) (d 6) (M 9) (d 7) (M 11) (M 12) (M 13) (M 14) (M 15) (M 16) (M 17) (M 18) (M 19) (M 20) (M 21) (M 22) (M 23) (M 24) (M 25) (M 26) (M 27) (M 28), arI X (d 1) 122 (wPut (wPut (wPut (wPut (wZ w (w 0) 10) (w 0) 0 a) (w 0) 1 a) (w 0) 2 r) (w 0) 3 m)]) A9 s9.heap H locs := hw
        refine W.eq (g2 := F0 m9 65 ls []) rfl ?_
        refine lv_aload_n Ex Eb dX8_makeLoan_65 rfl (lv_at hl 0 rfl) ?_
        refine lo_get E hK hw huRX8 1 hf9 rfl 0 rfl rfl (by decide) (v := .ref (d 1)) rfl dX8_makeLoan_66 ?_
        refine lv_iconst (v := iI 0) Ex Eb dX8_makeLoan_69 rfl ?_
        refine lv_dup2_11 Ex Eb dX8_makeLoan_70 rfl rfl ?_
        refine lo_iald E hK hw 1 rfl (by omega) dX8_makeLoan_71 ?_
        refine W.eq (g2 := F0 m9 72 ls [.int (iI (wPut (wPut (wPut (wPut (wZ w (w 0) 10) (w 0) 0 a) (w 0) 1 a) (w 0) 2 r) (w 0) 3 m 0)), .int (iI 0), .ref (d 1)]) rfl ?_
        refine lv_iconst (v := iI 1) Ex Eb dX8_makeLoan_72 rfl ?_
        refine lo_iadd E dX8_makeLoan_73 ?_
        refine lo_iast E hK hw 1 rfl (by omega) (ws' := [oX8 (d 0) (M 0) (d 1) (d 2) (M 3) (d 3) (M 5) (d 4) (d 5) (d 6) (M 9) (d 7) (M 11) (M 12) (M 13) (M 14) (M 15) (M 16) (M 17) (M 18) (M 19) (M 20) (M 21) (M 22) (M 23) (M 24) (M 25) (M 26) (M 27) (M 28), arI X (d 1) 122 (uI (wPut (wPut (wPut (wPut (wZ w (w 0) 10) (w 0) 0 a) (w 0) 1 a) (w 0) 2 r) (w 0) 3 m) 0 ((wPut (wPut (wPut (wPut (wZ w (w 0) 10) (w 0) 0 a) (w 0) 1 a) (w 0) 2 r) (w 0) 3 m 0) + 1))]) rfl dX8_makeLoan_74 (fun H locs hw => ?_)
        have hnw := wNw_R (w := w) (a := a) (r := r) (m := m) (by omega)
        have h1 : wOf (wNw w a r m) (w 0) 1 = a := hnw.1 1 (by omega)
        have h2 : wOf (wNw w a r m) (w 0) 2 = r := hnw.1 2 (by omega)
        have h3 : wOf (wNw w a r m) (w 0) 3 = m := hnw.1 3 (by omega)
        have h5 : wOf (wNw w a r m) (w 0) 5 = 0 := hnw.1 5 (by omega)
        have hw : lo_Wd X ([oX8 (d 0) (M 0) (d 1) (d 2) (M 3) (d 3) (M 5) (d 4) (d 5) (d 6) (M 9) (d 7) (M 11) (M 12) (M 13) (M 14) (M 15) (M 16) (M 17) (M 18) (M 19) (M 20) (M 21) (M 22) (M 23) (M 24) (M 25) (M 26) (M 27) (M 28), arI X (d 1) 122 (wNw w a r m)]) A9 s9.heap H locs := hw
        refine lv_aload_n Ex Eb dX8_makeLoan_75 rfl (lv_at hl 0 rfl) ?_
        refine lv_iload Ex Eb dX8_makeLoan_76 (lv_at hl 4 rfl) ?_
        refine lo_callV (q0 := 0) (rest := []) E hK hw (kX8_calculate l X d M (wNw w a r m) (w 0) (by omega) (by omega) (by omega) (by omega) (by omega)) (cwV 1 E.2.2.2.2 gX8_makeLoan_X8_calculate rfl rfl rfl (by decide +kernel) ⟨Nat.le_of_ble_eq_true rfl, Nat.le_of_ble_eq_true rfl⟩) rfl rfl [0, 1] rfl (by decide) hl.1 rfl rfl (Nat.le_of_ble_eq_true rfl) dX8_makeLoan_78 ⟨Nat.le_of_ble_eq_true rfl, Nat.le_of_ble_eq_true rfl⟩ (fun v w1 H locs hq hw => ?_)
        obtain ⟨N2, q78_0, rfl, rfl⟩ := hq
        have hw : lo_Wd X ([oX8 (d 0) (N2 0) (d 1) (d 2) (N2 3) (d 3) (N2 5) (d 4) (d 5) (d 6) (N2 9) (d 7) (N2 11) (N2 12) (N2 13) (N2 14) (N2 15) (N2 16) (N2 17) (N2 18) (N2 19) (N2 20) (N2 21) (N2 22) (N2 23) (N2 24) (N2 25) (N2 26) (N2 27) (N2 28), arI X (d 1) 122 (wCalc (wNw w a r m) (w 0))]) A9 s9.heap H locs := hw
        refine W.eq (g2 := F0 m9 81 ls []) rfl ?_
        refine lv_iload Ex Eb dX8_makeLoan_81 (lv_at hl 4 rfl) ?_
        exact lo_iret E hRt hLk hK hAe hw dX8_makeLoan_83 rfl ⟨N2, (q78_0), rfl, rfl⟩
      · skip
        refine lv_aload_n Ex Eb dX8_makeLoan_18 rfl (lv_at hl 0 rfl) ?_
        refine lv_iload Ex Eb dX8_makeLoan_19 (lv_at hl 4 rfl) ?_
        refine lv_iload Ex Eb dX8_makeLoan_21 (lv_at hl 5 rfl) ?_
        refine lv_iconst (v := iI 0) Ex Eb dX8_makeLoan_23 rfl ?_
        refine lo_callV (q0 := 0) (rest := []) E hK hw (kX8_put l X d M u (w 0) ix 0 (by omega) (by omega)) (cwV 3 E.2.2.2.2 gX8_makeLoan_X8_put rfl rfl rfl (by decide +kernel) ⟨Nat.le_of_ble_eq_true rfl, Nat.le_of_ble_eq_true rfl⟩) rfl rfl [0, 1] rfl (by decide) hl.1 rfl rfl (Nat.le_of_ble_eq_true rfl) dX8_makeLoan_24 ⟨Nat.le_of_ble_eq_true rfl, Nat.le_of_ble_eq_true rfl⟩ (fun v w1 H locs hq hw => ?_)
        obtain ⟨rfl, rfl⟩ := hq
        have hw : lo_Wd X ([oX8 (d 0) (M 0) (d 1) (d 2) (M 3) (d 3) (M 5) (d 4) (d 5) (d 6) (M 9) (d 7) (M 11) (M 12) (M 13) (M 14) (M 15) (M 16) (M 17) (M 18) (M 19) (M 20) (M 21) (M 22) (M 23) (M 24) (M 25) (M 26) (M 27) (M 28), arI X (d 1) 122 (wPut u (w 0) ix 0)]) A9 s9.heap H locs := hw
        refine W.eq (g2 := F0 m9 27 ls []) rfl ?_
        refine lo_iinc (lv' := [(5, .int (iI (ix + 1))), (0, .ref (d 0)), (1, .int (iI a)), (2, .int (iI r)), (3, .int (iI m)), (4, .int (iI (w 0)))]) E dX8_makeLoan_27 hl (k := 5) rfl (by decide) rfl (fun ls hl => ?_)
        refine lv_goto (tgt := 11) Ex Eb dX8_makeLoan_30 (by decide) ?_
        exact ih11 (wPut u (w 0) ix 0) (ix + 1) (by omega) (by omega) (by rw [show (ix + 1).toNat = ix.toNat + 1 by omega]; show _ = wPut (wZ w (w 0) ix.toNat) (w 0) (ix.toNat : Int) 0; rw [show ((ix.toNat : Nat) : Int) = ix by omega, ← iv11_1]) _ _ _ hw (lv_sub hl [1, 2, 3, 4, 5, 0] rfl)
  exact lp11 _ w 0 (Nat.lt_succ_self _) (by omega) (rfl) _ _ _ hw (lv_sub hl [2, 3, 4, 5, 1, 0] rfl)
