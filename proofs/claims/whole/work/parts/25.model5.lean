set_option maxHeartbeats 4000000 in
set_option maxRecDepth 100000 in
theorem kX8_field (l : Launch) (X : KX) (d : Nat → Nat) (M w : Nat → Int) (i k : Int) (hWI : WI w) (hi : i32 i) (hk : 0 ≤ k ∧ k < 10) : CM l X yX8_field wsX8_field ({ frames := 2, cells := 0, slots := 0, locals := 45 }) [.ref (d 0), .int (iI i), .int (iI k)] ([oX8 (d 0) (M 0) (d 1) (d 2) (M 3) (d 3) (M 5) (d 4) (d 5) (d 6) (M 9) (d 7) (M 11) (M 12) (M 13) (M 14) (M 15) (M 16) (M 17) (M 18) (M 19) (M 20) (M 21) (M 22) (M 23) (M 24) (M 25) (M 26) (M 27) (M 28), arI X (d 1) 122 w]) (fun v9 w9 => ∃ N : Nat → Int, ∃ r : Int, (sameP M N) ∧ ((N 0 = 0 ∧ 0 ≤ i ∧ i < w 0 ∧ r = wOf w i k) ∨ (N 0 = 1 ∧ ¬ (0 ≤ i ∧ i < w 0))) ∧ v9 = some (.int (iI r)) ∧ w9 = [oX8 (d 0) (N 0) (d 1) (d 2) (N 3) (d 3) (N 5) (d 4) (d 5) (d 6) (N 9) (d 7) (N 11) (N 12) (N 13) (N 14) (N 15) (N 16) (N 17) (N 18) (N 19) (N 20) (N 21) (N 22) (N 23) (N 24) (N 25) (N 26) (N 27) (N 28), arI X (d 1) 122 w]) 0 0 := by
  refine lo_enter (cc := cX8_field) (maxL := 3) (ret := (some .int)) (lv := [(0, .ref (d 0)), (1, .int (iI i)), (2, .int (iI k))]) (by decide) rfl rfl (Nat.le_of_ble_eq_true rfl) ?_
  intro p9 e9 s9 m9 bl9 me9 c9 A9 ls hAe E hRt hLk hK hl hw
  have Ex := E.1
  have Eb := E.2.1
  have huRX8 : ∀ w ∈ u_ws RX8 TX8 29, w ∈ wsX8_field := by decide +kernel
  have hf56 : (Cond.fieldLink RX8 56 "LoanScheduleModel" "thrown" "I").before _ s9 = true := E.2.2.2.2 _ (List.mem_of_getElem? (i := 1) rfl)
  obtain ⟨⟨hn0, hn1⟩, ⟨hb0, hb1⟩, hL⟩ := id hWI
  refine lv_aload_n Ex Eb dX8_field_0 rfl (lv_at hl 0 rfl) ?_
  refine lv_iconst (v := iI 0) Ex Eb dX8_field_1 rfl ?_
  refine lo_put E hK hw huRX8 tyX8 tyX8_ok nmX8 0 hf56 rfl 0 rfl rfl (by decide) rfl rfl rfl rfl (Nat.le_of_ble_eq_true rfl) (ws' := [oX8 (d 0) 0 (d 1) (d 2) (M 3) (d 3) (M 5) (d 4) (d 5) (d 6) (M 9) (d 7) (M 11) (M 12) (M 13) (M 14) (M 15) (M 16) (M 17) (M 18) (M 19) (M 20) (M 21) (M 22) (M 23) (M 24) (M 25) (M 26) (M 27) (M 28), arI X (d 1) 122 w]) rfl dX8_field_2 (fun H locs hw => ?_)
  refine lv_aload_n Ex Eb dX8_field_5 rfl (lv_at hl 0 rfl) ?_
  refine lv_iload_n Ex Eb dX8_field_6 rfl (lv_at hl 1 rfl) ?_
  refine lo_callV (q0 := 0) (rest := []) E hK hw (kX8_noLoan l X d (uI M 0 0) w i (hWI) (by omega)) (cwV 1 E.2.2.2.2 gX8_field_X8_noLoan rfl rfl rfl (by decide +kernel) ⟨Nat.le_of_ble_eq_true rfl, Nat.le_of_ble_eq_true rfl⟩) rfl rfl [0, 1] rfl (by decide) hl.1 rfl rfl (Nat.le_of_ble_eq_true rfl) dX8_field_7 ⟨Nat.le_of_ble_eq_true rfl, Nat.le_of_ble_eq_true rfl⟩ (fun v w1 H locs hq hw => ?_)
  obtain ⟨z1, t2, q7_0, rfl, rfl⟩ := hq
  change (z1 = 0 ∧ t2 = 0 ∧ 0 ≤ i ∧ i < w 0) ∨ (z1 = 1 ∧ t2 = 1 ∧ ¬ (0 ≤ i ∧ i < w 0)) at q7_0
  have hw : lo_Wd X ([oX8 (d 0) t2 (d 1) (d 2) (M 3) (d 3) (M 5) (d 4) (d 5) (d 6) (M 9) (d 7) (M 11) (M 12) (M 13) (M 14) (M 15) (M 16) (M 17) (M 18) (M 19) (M 20) (M 21) (M 22) (M 23) (M 24) (M 25) (M 26) (M 27) (M 28), arI X (d 1) 122 w]) A9 s9.heap H locs := hw
  refine W.eq (g2 := F0 m9 10 ls [.int (iI z1)]) rfl ?_
  refine lo_if_eq (tgt := 17) E dX8_field_10 (by decide) (by omega) (fun c3 => ?_) (fun c3 => ?_)
  · skip
    refine lv_aload_n Ex Eb dX8_field_17 rfl (lv_at hl 0 rfl) ?_
    refine lv_iload_n Ex Eb dX8_field_18 rfl (lv_at hl 1 rfl) ?_
    refine lv_iload_n Ex Eb dX8_field_19 rfl (lv_at hl 2 rfl) ?_
    refine lo_callV (q0 := 0) (rest := []) E hK hw (kX8_of l X d (uI M 0 t2) w i k (by omega) (by omega)) (cwV 2 E.2.2.2.2 gX8_field_X8_of rfl rfl rfl (by decide +kernel) ⟨Nat.le_of_ble_eq_true rfl, Nat.le_of_ble_eq_true rfl⟩) rfl rfl [0, 1] rfl (by decide) hl.1 rfl rfl (Nat.le_of_ble_eq_true rfl) dX8_field_20 ⟨Nat.le_of_ble_eq_true rfl, Nat.le_of_ble_eq_true rfl⟩ (fun v w1 H locs hq hw => ?_)
    obtain ⟨rfl, rfl⟩ := hq
    have hw : lo_Wd X ([oX8 (d 0) t2 (d 1) (d 2) (M 3) (d 3) (M 5) (d 4) (d 5) (d 6) (M 9) (d 7) (M 11) (M 12) (M 13) (M 14) (M 15) (M 16) (M 17) (M 18) (M 19) (M 20) (M 21) (M 22) (M 23) (M 24) (M 25) (M 26) (M 27) (M 28), arI X (d 1) 122 w]) A9 s9.heap H locs := hw
    refine W.eq (g2 := F0 m9 23 ls [.int (iI (wOf w i k))]) rfl ?_
    exact lo_iret E hRt hLk hK hAe hw dX8_field_23 rfl ⟨uI M 0 t2, wOf w i k, (by first | exact sameP_t | exact sameP.rf | assumption), (by first | omega | (simp only [uI_s, and_true]; omega)), rfl, rfl⟩
  · skip
    refine lv_iconst (v := iI 0) Ex Eb dX8_field_13 rfl ?_
    refine lv_goto (tgt := 23) Ex Eb dX8_field_14 (by decide) ?_
    exact lo_iret E hRt hLk hK hAe hw dX8_field_23 rfl ⟨uI M 0 t2, 0, (by first | exact sameP_t | exact sameP.rf | assumption), (by first | omega | (simp only [uI_s, and_true]; omega)), rfl, rfl⟩
set_option maxHeartbeats 4000000 in
set_option maxRecDepth 100000 in
theorem kX8_principal (l : Launch) (X : KX) (d : Nat → Nat) (M w : Nat → Int) (i : Int) (hWI : WI w) (hi : i32 i) : CM l X yX8_principal wsX8_principal ({ frames := 3, cells := 0, slots := 0, locals := 67 }) [.ref (d 0), .int (iI i)] ([oX8 (d 0) (M 0) (d 1) (d 2) (M 3) (d 3) (M 5) (d 4) (d 5) (d 6) (M 9) (d 7) (M 11) (M 12) (M 13) (M 14) (M 15) (M 16) (M 17) (M 18) (M 19) (M 20) (M 21) (M 22) (M 23) (M 24) (M 25) (M 26) (M 27) (M 28), arI X (d 1) 122 w]) (fun v9 w9 => ∃ N : Nat → Int, ∃ r : Int, (sameP M N) ∧ ((N 0 = 0 ∧ 0 ≤ i ∧ i < w 0 ∧ r = wOf w i 0) ∨ (N 0 = 1 ∧ ¬ (0 ≤ i ∧ i < w 0))) ∧ v9 = some (.int (iI r)) ∧ w9 = [oX8 (d 0) (N 0) (d 1) (d 2) (N 3) (d 3) (N 5) (d 4) (d 5) (d 6) (N 9) (d 7) (N 11) (N 12) (N 13) (N 14) (N 15) (N 16) (N 17) (N 18) (N 19) (N 20) (N 21) (N 22) (N 23) (N 24) (N 25) (N 26) (N 27) (N 28), arI X (d 1) 122 w]) 0 0 := by
  refine lo_enter (cc := cX8_principal) (maxL := 2) (ret := (some .int)) (lv := [(0, .ref (d 0)), (1, .int (iI i))]) (by decide) rfl rfl (Nat.le_of_ble_eq_true rfl) ?_
  intro p9 e9 s9 m9 bl9 me9 c9 A9 ls hAe E hRt hLk hK hl hw
  have Ex := E.1
  have Eb := E.2.1
  refine lv_aload_n Ex Eb dX8_principal_0 rfl (lv_at hl 0 rfl) ?_
  refine lv_iload_n Ex Eb dX8_principal_1 rfl (lv_at hl 1 rfl) ?_
  refine lv_iconst (v := iI 0) Ex Eb dX8_principal_2 rfl ?_
  refine lo_callV (q0 := 0) (rest := []) E hK hw (kX8_field l X d M w i 0 (hWI) (by omega) (by omega)) (cwV 2 E.2.2.2.2 gX8_principal_X8_field rfl rfl rfl (by decide +kernel) ⟨Nat.le_of_ble_eq_true rfl, Nat.le_of_ble_eq_true rfl⟩) rfl rfl [0, 1] rfl (by decide) hl.1 rfl rfl (Nat.le_of_ble_eq_true rfl) dX8_principal_3 ⟨Nat.le_of_ble_eq_true rfl, Nat.le_of_ble_eq_true rfl⟩ (fun v w1 H locs hq hw => ?_)
  obtain ⟨N1, r2, q3_0, q3_1, rfl, rfl⟩ := hq
  have hw : lo_Wd X ([oX8 (d 0) (N1 0) (d 1) (d 2) (N1 3) (d 3) (N1 5) (d 4) (d 5) (d 6) (N1 9) (d 7) (N1 11) (N1 12) (N1 13) (N1 14) (N1 15) (N1 16) (N1 17) (N1 18) (N1 19) (N1 20) (N1 21) (N1 22) (N1 23) (N1 24) (N1 25) (N1 26) (N1 27) (N1 28), arI X (d 1) 122 w]) A9 s9.heap H locs := hw
  refine W.eq (g2 := F0 m9 6 ls [.int (iI r2)]) rfl ?_
  exact lo_iret E hRt hLk hK hAe hw dX8_principal_6 rfl ⟨N1, r2, (by first | exact q3_0 | exact q4_0), (by first | exact q3_1 | exact q4_1), rfl, rfl⟩
set_option maxHeartbeats 4000000 in
set_option maxRecDepth 100000 in
theorem kX8_balance (l : Launch) (X : KX) (d : Nat → Nat) (M w : Nat → Int) (i : Int) (hWI : WI w) (hi : i32 i) : CM l X yX8_balance wsX8_balance ({ frames := 3, cells := 0, slots := 0, locals := 67 }) [.ref (d 0), .int (iI i)] ([oX8 (d 0) (M 0) (d 1) (d 2) (M 3) (d 3) (M 5) (d 4) (d 5) (d 6) (M 9) (d 7) (M 11) (M 12) (M 13) (M 14) (M 15) (M 16) (M 17) (M 18) (M 19) (M 20) (M 21) (M 22) (M 23) (M 24) (M 25) (M 26) (M 27) (M 28), arI X (d 1) 122 w]) (fun v9 w9 => ∃ N : Nat → Int, ∃ r : Int, (sameP M N) ∧ ((N 0 = 0 ∧ 0 ≤ i ∧ i < w 0 ∧ r = wOf w i 1) ∨ (N 0 = 1 ∧ ¬ (0 ≤ i ∧ i < w 0))) ∧ v9 = some (.int (iI r)) ∧ w9 = [oX8 (d 0) (N 0) (d 1) (d 2) (N 3) (d 3) (N 5) (d 4) (d 5) (d 6) (N 9) (d 7) (N 11) (N 12) (N 13) (N 14) (N 15) (N 16) (N 17) (N 18) (N 19) (N 20) (N 21) (N 22) (N 23) (N 24) (N 25) (N 26) (N 27) (N 28), arI X (d 1) 122 w]) 0 0 := by
  refine lo_enter (cc := cX8_balance) (maxL := 2) (ret := (some .int)) (lv := [(0, .ref (d 0)), (1, .int (iI i))]) (by decide) rfl rfl (Nat.le_of_ble_eq_true rfl) ?_
  intro p9 e9 s9 m9 bl9 me9 c9 A9 ls hAe E hRt hLk hK hl hw
  have Ex := E.1
  have Eb := E.2.1
  refine lv_aload_n Ex Eb dX8_balance_0 rfl (lv_at hl 0 rfl) ?_
  refine lv_iload_n Ex Eb dX8_balance_1 rfl (lv_at hl 1 rfl) ?_
  refine lv_iconst (v := iI 1) Ex Eb dX8_balance_2 rfl ?_
  refine lo_callV (q0 := 0) (rest := []) E hK hw (kX8_field l X d M w i 1 (hWI) (by omega) (by omega)) (cwV 2 E.2.2.2.2 gX8_balance_X8_field rfl rfl rfl (by decide +kernel) ⟨Nat.le_of_ble_eq_true rfl, Nat.le_of_ble_eq_true rfl⟩) rfl rfl [0, 1] rfl (by decide) hl.1 rfl rfl (Nat.le_of_ble_eq_true rfl) dX8_balance_3 ⟨Nat.le_of_ble_eq_true rfl, Nat.le_of_ble_eq_true rfl⟩ (fun v w1 H locs hq hw => ?_)
  obtain ⟨N1, r2, q3_0, q3_1, rfl, rfl⟩ := hq
  have hw : lo_Wd X ([oX8 (d 0) (N1 0) (d 1) (d 2) (N1 3) (d 3) (N1 5) (d 4) (d 5) (d 6) (N1 9) (d 7) (N1 11) (N1 12) (N1 13) (N1 14) (N1 15) (N1 16) (N1 17) (N1 18) (N1 19) (N1 20) (N1 21) (N1 22) (N1 23) (N1 24) (N1 25) (N1 26) (N1 27) (N1 28), arI X (d 1) 122 w]) A9 s9.heap H locs := hw
  refine W.eq (g2 := F0 m9 6 ls [.int (iI r2)]) rfl ?_
  exact lo_iret E hRt hLk hK hAe hw dX8_balance_6 rfl ⟨N1, r2, (by first | exact q3_0 | exact q4_0), (by first | exact q3_1 | exact q4_1), rfl, rfl⟩
set_option maxHeartbeats 4000000 in
set_option maxRecDepth 100000 in
theorem kX8_rate (l : Launch) (X : KX) (d : Nat → Nat) (M w : Nat → Int) (i : Int) (hWI : WI w) (hi : i32 i) : CM l X yX8_rate wsX8_rate ({ frames := 3, cells := 0, slots := 0, locals := 67 }) [.ref (d 0), .int (iI i)] ([oX8 (d 0) (M 0) (d 1) (d 2) (M 3) (d 3) (M 5) (d 4) (d 5) (d 6) (M 9) (d 7) (M 11) (M 12) (M 13) (M 14) (M 15) (M 16) (M 17) (M 18) (M 19) (M 20) (M 21) (M 22) (M 23) (M 24) (M 25) (M 26) (M 27) (M 28), arI X (d 1) 122 w]) (fun v9 w9 => ∃ N : Nat → Int, ∃ r : Int, (sameP M N) ∧ ((N 0 = 0 ∧ 0 ≤ i ∧ i < w 0 ∧ r = wOf w i 2) ∨ (N 0 = 1 ∧ ¬ (0 ≤ i ∧ i < w 0))) ∧ v9 = some (.int (iI r)) ∧ w9 = [oX8 (d 0) (N 0) (d 1) (d 2) (N 3) (d 3) (N 5) (d 4) (d 5) (d 6) (N 9) (d 7) (N 11) (N 12) (N 13) (N 14) (N 15) (N 16) (N 17) (N 18) (N 19) (N 20) (N 21) (N 22) (N 23) (N 24) (N 25) (N 26) (N 27) (N 28), arI X (d 1) 122 w]) 0 0 := by
  refine lo_enter (cc := cX8_rate) (maxL := 2) (ret := (some .int)) (lv := [(0, .ref (d 0)), (1, .int (iI i))]) (by decide) rfl rfl (Nat.le_of_ble_eq_true rfl) ?_
  intro p9 e9 s9 m9 bl9 me9 c9 A9 ls hAe E hRt hLk hK hl hw
  have Ex := E.1
  have Eb := E.2.1
  refine lv_aload_n Ex Eb dX8_rate_0 rfl (lv_at hl 0 rfl) ?_
  refine lv_iload_n Ex Eb dX8_rate_1 rfl (lv_at hl 1 rfl) ?_
  refine lv_iconst (v := iI 2) Ex Eb dX8_rate_2 rfl ?_
  refine lo_callV (q0 := 0) (rest := []) E hK hw (kX8_field l X d M w i 2 (hWI) (by omega) (by omega)) (cwV 2 E.2.2.2.2 gX8_rate_X8_field rfl rfl rfl (by decide +kernel) ⟨Nat.le_of_ble_eq_true rfl, Nat.le_of_ble_eq_true rfl⟩) rfl rfl [0, 1] rfl (by decide) hl.1 rfl rfl (Nat.le_of_ble_eq_true rfl) dX8_rate_3 ⟨Nat.le_of_ble_eq_true rfl, Nat.le_of_ble_eq_true rfl⟩ (fun v w1 H locs hq hw => ?_)
  obtain ⟨N1, r2, q3_0, q3_1, rfl, rfl⟩ := hq
  have hw : lo_Wd X ([oX8 (d 0) (N1 0) (d 1) (d 2) (N1 3) (d 3) (N1 5) (d 4) (d 5) (d 6) (N1 9) (d 7) (N1 11) (N1 12) (N1 13) (N1 14) (N1 15) (N1 16) (N1 17) (N1 18) (N1 19) (N1 20) (N1 21) (N1 22) (N1 23) (N1 24) (N1 25) (N1 26) (N1 27) (N1 28), arI X (d 1) 122 w]) A9 s9.heap H locs := hw
  refine W.eq (g2 := F0 m9 6 ls [.int (iI r2)]) rfl ?_
  exact lo_iret E hRt hLk hK hAe hw dX8_rate_6 rfl ⟨N1, r2, (by first | exact q3_0 | exact q4_0), (by first | exact q3_1 | exact q4_1), rfl, rfl⟩
set_option maxHeartbeats 4000000 in
set_option maxRecDepth 100000 in
theorem kX8_monthsLeft (l : Launch) (X : KX) (d : Nat → Nat) (M w : Nat → Int) (i : Int) (hWI : WI w) (hi : i32 i) : CM l X yX8_monthsLeft wsX8_monthsLeft ({ frames := 3, cells := 0, slots := 0, locals := 67 }) [.ref (d 0), .int (iI i)] ([oX8 (d 0) (M 0) (d 1) (d 2) (M 3) (d 3) (M 5) (d 4) (d 5) (d 6) (M 9) (d 7) (M 11) (M 12) (M 13) (M 14) (M 15) (M 16) (M 17) (M 18) (M 19) (M 20) (M 21) (M 22) (M 23) (M 24) (M 25) (M 26) (M 27) (M 28), arI X (d 1) 122 w]) (fun v9 w9 => ∃ N : Nat → Int, ∃ r : Int, (sameP M N) ∧ ((N 0 = 0 ∧ 0 ≤ i ∧ i < w 0 ∧ r = wOf w i 3) ∨ (N 0 = 1 ∧ ¬ (0 ≤ i ∧ i < w 0))) ∧ v9 = some (.int (iI r)) ∧ w9 = [oX8 (d 0) (N 0) (d 1) (d 2) (N 3) (d 3) (N 5) (d 4) (d 5) (d 6) (N 9) (d 7) (N 11) (N 12) (N 13) (N 14) (N 15) (N 16) (N 17) (N 18) (N 19) (N 20) (N 21) (N 22) (N 23) (N 24) (N 25) (N 26) (N 27) (N 28), arI X (d 1) 122 w]) 0 0 := by
  refine lo_enter (cc := cX8_monthsLeft) (maxL := 2) (ret := (some .int)) (lv := [(0, .ref (d 0)), (1, .int (iI i))]) (by decide) rfl rfl (Nat.le_of_ble_eq_true rfl) ?_
  intro p9 e9 s9 m9 bl9 me9 c9 A9 ls hAe E hRt hLk hK hl hw
  have Ex := E.1
  have Eb := E.2.1
  refine lv_aload_n Ex Eb dX8_monthsLeft_0 rfl (lv_at hl 0 rfl) ?_
  refine lv_iload_n Ex Eb dX8_monthsLeft_1 rfl (lv_at hl 1 rfl) ?_
  refine lv_iconst (v := iI 3) Ex Eb dX8_monthsLeft_2 rfl ?_
  refine lo_callV (q0 := 0) (rest := []) E hK hw (kX8_field l X d M w i 3 (hWI) (by omega) (by omega)) (cwV 2 E.2.2.2.2 gX8_monthsLeft_X8_field rfl rfl rfl (by decide +kernel) ⟨Nat.le_of_ble_eq_true rfl, Nat.le_of_ble_eq_true rfl⟩) rfl rfl [0, 1] rfl (by decide) hl.1 rfl rfl (Nat.le_of_ble_eq_true rfl) dX8_monthsLeft_3 ⟨Nat.le_of_ble_eq_true rfl, Nat.le_of_ble_eq_true rfl⟩ (fun v w1 H locs hq hw => ?_)
  obtain ⟨N1, r2, q3_0, q3_1, rfl, rfl⟩ := hq
  have hw : lo_Wd X ([oX8 (d 0) (N1 0) (d 1) (d 2) (N1 3) (d 3) (N1 5) (d 4) (d 5) (d 6) (N1 9) (d 7) (N1 11) (N1 12) (N1 13) (N1 14) (N1 15) (N1 16) (N1 17) (N1 18) (N1 19) (N1 20) (N1 21) (N1 22) (N1 23) (N1 24) (N1 25) (N1 26) (N1 27) (N1 28), arI X (d 1) 122 w]) A9 s9.heap H locs := hw
  refine W.eq (g2 := F0 m9 6 ls [.int (iI r2)]) rfl ?_
  exact lo_iret E hRt hLk hK hAe hw dX8_monthsLeft_6 rfl ⟨N1, r2, (by first | exact q3_0 | exact q4_0), (by first | exact q3_1 | exact q4_1), rfl, rfl⟩
set_option maxHeartbeats 4000000 in
set_option maxRecDepth 100000 in
theorem kX8_installment (l : Launch) (X : KX) (d : Nat → Nat) (M w : Nat → Int) (i : Int) (hWI : WI w) (hi : i32 i) : CM l X yX8_installment wsX8_installment ({ frames := 3, cells := 0, slots := 0, locals := 67 }) [.ref (d 0), .int (iI i)] ([oX8 (d 0) (M 0) (d 1) (d 2) (M 3) (d 3) (M 5) (d 4) (d 5) (d 6) (M 9) (d 7) (M 11) (M 12) (M 13) (M 14) (M 15) (M 16) (M 17) (M 18) (M 19) (M 20) (M 21) (M 22) (M 23) (M 24) (M 25) (M 26) (M 27) (M 28), arI X (d 1) 122 w]) (fun v9 w9 => ∃ N : Nat → Int, ∃ r : Int, (sameP M N) ∧ ((N 0 = 0 ∧ 0 ≤ i ∧ i < w 0 ∧ r = wOf w i 4) ∨ (N 0 = 1 ∧ ¬ (0 ≤ i ∧ i < w 0))) ∧ v9 = some (.int (iI r)) ∧ w9 = [oX8 (d 0) (N 0) (d 1) (d 2) (N 3) (d 3) (N 5) (d 4) (d 5) (d 6) (N 9) (d 7) (N 11) (N 12) (N 13) (N 14) (N 15) (N 16) (N 17) (N 18) (N 19) (N 20) (N 21) (N 22) (N 23) (N 24) (N 25) (N 26) (N 27) (N 28), arI X (d 1) 122 w]) 0 0 := by
  refine lo_enter (cc := cX8_installment) (maxL := 2) (ret := (some .int)) (lv := [(0, .ref (d 0)), (1, .int (iI i))]) (by decide) rfl rfl (Nat.le_of_ble_eq_true rfl) ?_
  intro p9 e9 s9 m9 bl9 me9 c9 A9 ls hAe E hRt hLk hK hl hw
  have Ex := E.1
  have Eb := E.2.1
  refine lv_aload_n Ex Eb dX8_installment_0 rfl (lv_at hl 0 rfl) ?_
  refine lv_iload_n Ex Eb dX8_installment_1 rfl (lv_at hl 1 rfl) ?_
  refine lv_iconst (v := iI 4) Ex Eb dX8_installment_2 rfl ?_
  refine lo_callV (q0 := 0) (rest := []) E hK hw (kX8_field l X d M w i 4 (hWI) (by omega) (by omega)) (cwV 2 E.2.2.2.2 gX8_installment_X8_field rfl rfl rfl (by decide +kernel) ⟨Nat.le_of_ble_eq_true rfl, Nat.le_of_ble_eq_true rfl⟩) rfl rfl [0, 1] rfl (by decide) hl.1 rfl rfl (Nat.le_of_ble_eq_true rfl) dX8_installment_3 ⟨Nat.le_of_ble_eq_true rfl, Nat.le_of_ble_eq_true rfl⟩ (fun v w1 H locs hq hw => ?_)
  obtain ⟨N1, r2, q3_0, q3_1, rfl, rfl⟩ := hq
  have hw : lo_Wd X ([oX8 (d 0) (N1 0) (d 1) (d 2) (N1 3) (d 3) (N1 5) (d 4) (d 5) (d 6) (N1 9) (d 7) (N1 11) (N1 12) (N1 13) (N1 14) (N1 15) (N1 16) (N1 17) (N1 18) (N1 19) (N1 20) (N1 21) (N1 22) (N1 23) (N1 24) (N1 25) (N1 26) (N1 27) (N1 28), arI X (d 1) 122 w]) A9 s9.heap H locs := hw
  refine W.eq (g2 := F0 m9 6 ls [.int (iI r2)]) rfl ?_
  exact lo_iret E hRt hLk hK hAe hw dX8_installment_6 rfl ⟨N1, r2, (by first | exact q3_0 | exact q4_0), (by first | exact q3_1 | exact q4_1), rfl, rfl⟩
set_option maxHeartbeats 4000000 in
set_option maxRecDepth 100000 in
theorem kX8_carry (l : Launch) (X : KX) (d : Nat → Nat) (M w : Nat → Int) (i : Int) (hWI : WI w) (hi : i32 i) : CM l X yX8_carry wsX8_carry ({ frames := 3, cells := 0, slots := 0, locals := 67 }) [.ref (d 0), .int (iI i)] ([oX8 (d 0) (M 0) (d 1) (d 2) (M 3) (d 3) (M 5) (d 4) (d 5) (d 6) (M 9) (d 7) (M 11) (M 12) (M 13) (M 14) (M 15) (M 16) (M 17) (M 18) (M 19) (M 20) (M 21) (M 22) (M 23) (M 24) (M 25) (M 26) (M 27) (M 28), arI X (d 1) 122 w]) (fun v9 w9 => ∃ N : Nat → Int, ∃ r : Int, (sameP M N) ∧ ((N 0 = 0 ∧ 0 ≤ i ∧ i < w 0 ∧ r = wOf w i 5) ∨ (N 0 = 1 ∧ ¬ (0 ≤ i ∧ i < w 0))) ∧ v9 = some (.int (iI r)) ∧ w9 = [oX8 (d 0) (N 0) (d 1) (d 2) (N 3) (d 3) (N 5) (d 4) (d 5) (d 6) (N 9) (d 7) (N 11) (N 12) (N 13) (N 14) (N 15) (N 16) (N 17) (N 18) (N 19) (N 20) (N 21) (N 22) (N 23) (N 24) (N 25) (N 26) (N 27) (N 28), arI X (d 1) 122 w]) 0 0 := by
  refine lo_enter (cc := cX8_carry) (maxL := 2) (ret := (some .int)) (lv := [(0, .ref (d 0)), (1, .int (iI i))]) (by decide) rfl rfl (Nat.le_of_ble_eq_true rfl) ?_
  intro p9 e9 s9 m9 bl9 me9 c9 A9 ls hAe E hRt hLk hK hl hw
  have Ex := E.1
  have Eb := E.2.1
  refine lv_aload_n Ex Eb dX8_carry_0 rfl (lv_at hl 0 rfl) ?_
  refine lv_iload_n Ex Eb dX8_carry_1 rfl (lv_at hl 1 rfl) ?_
  refine lv_iconst (v := iI 5) Ex Eb dX8_carry_2 rfl ?_
  refine lo_callV (q0 := 0) (rest := []) E hK hw (kX8_field l X d M w i 5 (hWI) (by omega) (by omega)) (cwV 2 E.2.2.2.2 gX8_carry_X8_field rfl rfl rfl (by decide +kernel) ⟨Nat.le_of_ble_eq_true rfl, Nat.le_of_ble_eq_true rfl⟩) rfl rfl [0, 1] rfl (by decide) hl.1 rfl rfl (Nat.le_of_ble_eq_true rfl) dX8_carry_3 ⟨Nat.le_of_ble_eq_true rfl, Nat.le_of_ble_eq_true rfl⟩ (fun v w1 H locs hq hw => ?_)
  obtain ⟨N1, r2, q3_0, q3_1, rfl, rfl⟩ := hq
  have hw : lo_Wd X ([oX8 (d 0) (N1 0) (d 1) (d 2) (N1 3) (d 3) (N1 5) (d 4) (d 5) (d 6) (N1 9) (d 7) (N1 11) (N1 12) (N1 13) (N1 14) (N1 15) (N1 16) (N1 17) (N1 18) (N1 19) (N1 20) (N1 21) (N1 22) (N1 23) (N1 24) (N1 25) (N1 26) (N1 27) (N1 28), arI X (d 1) 122 w]) A9 s9.heap H locs := hw
  refine W.eq (g2 := F0 m9 6 ls [.int (iI r2)]) rfl ?_
  exact lo_iret E hRt hLk hK hAe hw dX8_carry_6 rfl ⟨N1, r2, (by first | exact q3_0 | exact q4_0), (by first | exact q3_1 | exact q4_1), rfl, rfl⟩
set_option maxHeartbeats 4000000 in
set_option maxRecDepth 100000 in
theorem kX8_interestSoFar (l : Launch) (X : KX) (d : Nat → Nat) (M w : Nat → Int) (i : Int) (hWI : WI w) (hi : i32 i) : CM l X yX8_interestSoFar wsX8_interestSoFar ({ frames := 3, cells := 0, slots := 0, locals := 67 }) [.ref (d 0), .int (iI i)] ([oX8 (d 0) (M 0) (d 1) (d 2) (M 3) (d 3) (M 5) (d 4) (d 5) (d 6) (M 9) (d 7) (M 11) (M 12) (M 13) (M 14) (M 15) (M 16) (M 17) (M 18) (M 19) (M 20) (M 21) (M 22) (M 23) (M 24) (M 25) (M 26) (M 27) (M 28), arI X (d 1) 122 w]) (fun v9 w9 => ∃ N : Nat → Int, ∃ r : Int, (sameP M N) ∧ ((N 0 = 0 ∧ 0 ≤ i ∧ i < w 0 ∧ r = wOf w i 6) ∨ (N 0 = 1 ∧ ¬ (0 ≤ i ∧ i < w 0))) ∧ v9 = some (.int (iI r)) ∧ w9 = [oX8 (d 0) (N 0) (d 1) (d 2) (N 3) (d 3) (N 5) (d 4) (d 5) (d 6) (N 9) (d 7) (N 11) (N 12) (N 13) (N 14) (N 15) (N 16) (N 17) (N 18) (N 19) (N 20) (N 21) (N 22) (N 23) (N 24) (N 25) (N 26) (N 27) (N 28), arI X (d 1) 122 w]) 0 0 := by
  refine lo_enter (cc := cX8_interestSoFar) (maxL := 2) (ret := (some .int)) (lv := [(0, .ref (d 0)), (1, .int (iI i))]) (by decide) rfl rfl (Nat.le_of_ble_eq_true rfl) ?_
  intro p9 e9 s9 m9 bl9 me9 c9 A9 ls hAe E hRt hLk hK hl hw
  have Ex := E.1
  have Eb := E.2.1
  refine lv_aload_n Ex Eb dX8_interestSoFar_0 rfl (lv_at hl 0 rfl) ?_
  refine lv_iload_n Ex Eb dX8_interestSoFar_1 rfl (lv_at hl 1 rfl) ?_
  refine lv_bipush (v := iI 6) Ex Eb dX8_interestSoFar_2 rfl ?_
  refine lo_callV (q0 := 0) (rest := []) E hK hw (kX8_field l X d M w i 6 (hWI) (by omega) (by omega)) (cwV 2 E.2.2.2.2 gX8_interestSoFar_X8_field rfl rfl rfl (by decide +kernel) ⟨Nat.le_of_ble_eq_true rfl, Nat.le_of_ble_eq_true rfl⟩) rfl rfl [0, 1] rfl (by decide) hl.1 rfl rfl (Nat.le_of_ble_eq_true rfl) dX8_interestSoFar_4 ⟨Nat.le_of_ble_eq_true rfl, Nat.le_of_ble_eq_true rfl⟩ (fun v w1 H locs hq hw => ?_)
  obtain ⟨N1, r2, q4_0, q4_1, rfl, rfl⟩ := hq
  have hw : lo_Wd X ([oX8 (d 0) (N1 0) (d 1) (d 2) (N1 3) (d 3) (N1 5) (d 4) (d 5) (d 6) (N1 9) (d 7) (N1 11) (N1 12) (N1 13) (N1 14) (N1 15) (N1 16) (N1 17) (N1 18) (N1 19) (N1 20) (N1 21) (N1 22) (N1 23) (N1 24) (N1 25) (N1 26) (N1 27) (N1 28), arI X (d 1) 122 w]) A9 s9.heap H locs := hw
  refine W.eq (g2 := F0 m9 7 ls [.int (iI r2)]) rfl ?_
  exact lo_iret E hRt hLk hK hAe hw dX8_interestSoFar_7 rfl ⟨N1, r2, (by first | exact q3_0 | exact q4_0), (by first | exact q3_1 | exact q4_1), rfl, rfl⟩
set_option maxHeartbeats 4000000 in
set_option maxRecDepth 100000 in
theorem kX8_paidSoFar (l : Launch) (X : KX) (d : Nat → Nat) (M w : Nat → Int) (i : Int) (hWI : WI w) (hi : i32 i) : CM l X yX8_paidSoFar wsX8_paidSoFar ({ frames := 3, cells := 0, slots := 0, locals := 67 }) [.ref (d 0), .int (iI i)] ([oX8 (d 0) (M 0) (d 1) (d 2) (M 3) (d 3) (M 5) (d 4) (d 5) (d 6) (M 9) (d 7) (M 11) (M 12) (M 13) (M 14) (M 15) (M 16) (M 17) (M 18) (M 19) (M 20) (M 21) (M 22) (M 23) (M 24) (M 25) (M 26) (M 27) (M 28), arI X (d 1) 122 w]) (fun v9 w9 => ∃ N : Nat → Int, ∃ r : Int, (sameP M N) ∧ ((N 0 = 0 ∧ 0 ≤ i ∧ i < w 0 ∧ r = wOf w i 7) ∨ (N 0 = 1 ∧ ¬ (0 ≤ i ∧ i < w 0))) ∧ v9 = some (.int (iI r)) ∧ w9 = [oX8 (d 0) (N 0) (d 1) (d 2) (N 3) (d 3) (N 5) (d 4) (d 5) (d 6) (N 9) (d 7) (N 11) (N 12) (N 13) (N 14) (N 15) (N 16) (N 17) (N 18) (N 19) (N 20) (N 21) (N 22) (N 23) (N 24) (N 25) (N 26) (N 27) (N 28), arI X (d 1) 122 w]) 0 0 := by
  refine lo_enter (cc := cX8_paidSoFar) (maxL := 2) (ret := (some .int)) (lv := [(0, .ref (d 0)), (1, .int (iI i))]) (by decide) rfl rfl (Nat.le_of_ble_eq_true rfl) ?_
  intro p9 e9 s9 m9 bl9 me9 c9 A9 ls hAe E hRt hLk hK hl hw
  have Ex := E.1
  have Eb := E.2.1
  refine lv_aload_n Ex Eb dX8_paidSoFar_0 rfl (lv_at hl 0 rfl) ?_
  refine lv_iload_n Ex Eb dX8_paidSoFar_1 rfl (lv_at hl 1 rfl) ?_
  refine lv_bipush (v := iI 7) Ex Eb dX8_paidSoFar_2 rfl ?_
  refine lo_callV (q0 := 0) (rest := []) E hK hw (kX8_field l X d M w i 7 (hWI) (by omega) (by omega)) (cwV 2 E.2.2.2.2 gX8_paidSoFar_X8_field rfl rfl rfl (by decide +kernel) ⟨Nat.le_of_ble_eq_true rfl, Nat.le_of_ble_eq_true rfl⟩) rfl rfl [0, 1] rfl (by decide) hl.1 rfl rfl (Nat.le_of_ble_eq_true rfl) dX8_paidSoFar_4 ⟨Nat.le_of_ble_eq_true rfl, Nat.le_of_ble_eq_true rfl⟩ (fun v w1 H locs hq hw => ?_)
  obtain ⟨N1, r2, q4_0, q4_1, rfl, rfl⟩ := hq
  have hw : lo_Wd X ([oX8 (d 0) (N1 0) (d 1) (d 2) (N1 3) (d 3) (N1 5) (d 4) (d 5) (d 6) (N1 9) (d 7) (N1 11) (N1 12) (N1 13) (N1 14) (N1 15) (N1 16) (N1 17) (N1 18) (N1 19) (N1 20) (N1 21) (N1 22) (N1 23) (N1 24) (N1 25) (N1 26) (N1 27) (N1 28), arI X (d 1) 122 w]) A9 s9.heap H locs := hw
  refine W.eq (g2 := F0 m9 7 ls [.int (iI r2)]) rfl ?_
  exact lo_iret E hRt hLk hK hAe hw dX8_paidSoFar_7 rfl ⟨N1, r2, (by first | exact q3_0 | exact q4_0), (by first | exact q3_1 | exact q4_1), rfl, rfl⟩
set_option maxHeartbeats 4000000 in
set_option maxRecDepth 100000 in
theorem kX8_paidMonths (l : Launch) (X : KX) (d : Nat → Nat) (M w : Nat → Int) (i : Int) (hWI : WI w) (hi : i32 i) : CM l X yX8_paidMonths wsX8_paidMonths ({ frames := 3, cells := 0, slots := 0, locals := 67 }) [.ref (d 0), .int (iI i)] ([oX8 (d 0) (M 0) (d 1) (d 2) (M 3) (d 3) (M 5) (d 4) (d 5) (d 6) (M 9) (d 7) (M 11) (M 12) (M 13) (M 14) (M 15) (M 16) (M 17) (M 18) (M 19) (M 20) (M 21) (M 22) (M 23) (M 24) (M 25) (M 26) (M 27) (M 28), arI X (d 1) 122 w]) (fun v9 w9 => ∃ N : Nat → Int, ∃ r : Int, (sameP M N) ∧ ((N 0 = 0 ∧ 0 ≤ i ∧ i < w 0 ∧ r = wOf w i 8) ∨ (N 0 = 1 ∧ ¬ (0 ≤ i ∧ i < w 0))) ∧ v9 = some (.int (iI r)) ∧ w9 = [oX8 (d 0) (N 0) (d 1) (d 2) (N 3) (d 3) (N 5) (d 4) (d 5) (d 6) (N 9) (d 7) (N 11) (N 12) (N 13) (N 14) (N 15) (N 16) (N 17) (N 18) (N 19) (N 20) (N 21) (N 22) (N 23) (N 24) (N 25) (N 26) (N 27) (N 28), arI X (d 1) 122 w]) 0 0 := by
  refine lo_enter (cc := cX8_paidMonths) (maxL := 2) (ret := (some .int)) (lv := [(0, .ref (d 0)), (1, .int (iI i))]) (by decide) rfl rfl (Nat.le_of_ble_eq_true rfl) ?_
  intro p9 e9 s9 m9 bl9 me9 c9 A9 ls hAe E hRt hLk hK hl hw
  have Ex := E.1
  have Eb := E.2.1
  refine lv_aload_n Ex Eb dX8_paidMonths_0 rfl (lv_at hl 0 rfl) ?_
  refine lv_iload_n Ex Eb dX8_paidMonths_1 rfl (lv_at hl 1 rfl) ?_
  refine lv_bipush (v := iI 8) Ex Eb dX8_paidMonths_2 rfl ?_
  refine lo_callV (q0 := 0) (rest := []) E hK hw (kX8_field l X d M w i 8 (hWI) (by omega) (by omega)) (cwV 2 E.2.2.2.2 gX8_paidMonths_X8_field rfl rfl rfl (by decide +kernel) ⟨Nat.le_of_ble_eq_true rfl, Nat.le_of_ble_eq_true rfl⟩) rfl rfl [0, 1] rfl (by decide) hl.1 rfl rfl (Nat.le_of_ble_eq_true rfl) dX8_paidMonths_4 ⟨Nat.le_of_ble_eq_true rfl, Nat.le_of_ble_eq_true rfl⟩ (fun v w1 H locs hq hw => ?_)
  obtain ⟨N1, r2, q4_0, q4_1, rfl, rfl⟩ := hq
  have hw : lo_Wd X ([oX8 (d 0) (N1 0) (d 1) (d 2) (N1 3) (d 3) (N1 5) (d 4) (d 5) (d 6) (N1 9) (d 7) (N1 11) (N1 12) (N1 13) (N1 14) (N1 15) (N1 16) (N1 17) (N1 18) (N1 19) (N1 20) (N1 21) (N1 22) (N1 23) (N1 24) (N1 25) (N1 26) (N1 27) (N1 28), arI X (d 1) 122 w]) A9 s9.heap H locs := hw
  refine W.eq (g2 := F0 m9 7 ls [.int (iI r2)]) rfl ?_
  exact lo_iret E hRt hLk hK hAe hw dX8_paidMonths_7 rfl ⟨N1, r2, (by first | exact q3_0 | exact q4_0), (by first | exact q3_1 | exact q4_1), rfl, rfl⟩
set_option maxHeartbeats 4000000 in
set_option maxRecDepth 100000 in
theorem kX8_skippedMonths (l : Launch) (X : KX) (d : Nat → Nat) (M w : Nat → Int) (i : Int) (hWI : WI w) (hi : i32 i) : CM l X yX8_skippedMonths wsX8_skippedMonths ({ frames := 3, cells := 0, slots := 0, locals := 67 }) [.ref (d 0), .int (iI i)] ([oX8 (d 0) (M 0) (d 1) (d 2) (M 3) (d 3) (M 5) (d 4) (d 5) (d 6) (M 9) (d 7) (M 11) (M 12) (M 13) (M 14) (M 15) (M 16) (M 17) (M 18) (M 19) (M 20) (M 21) (M 22) (M 23) (M 24) (M 25) (M 26) (M 27) (M 28), arI X (d 1) 122 w]) (fun v9 w9 => ∃ N : Nat → Int, ∃ r : Int, (sameP M N) ∧ ((N 0 = 0 ∧ 0 ≤ i ∧ i < w 0 ∧ r = wOf w i 9) ∨ (N 0 = 1 ∧ ¬ (0 ≤ i ∧ i < w 0))) ∧ v9 = some (.int (iI r)) ∧ w9 = [oX8 (d 0) (N 0) (d 1) (d 2) (N 3) (d 3) (N 5) (d 4) (d 5) (d 6) (N 9) (d 7) (N 11) (N 12) (N 13) (N 14) (N 15) (N 16) (N 17) (N 18) (N 19) (N 20) (N 21) (N 22) (N 23) (N 24) (N 25) (N 26) (N 27) (N 28), arI X (d 1) 122 w]) 0 0 := by
  refine lo_enter (cc := cX8_skippedMonths) (maxL := 2) (ret := (some .int)) (lv := [(0, .ref (d 0)), (1, .int (iI i))]) (by decide) rfl rfl (Nat.le_of_ble_eq_true rfl) ?_
  intro p9 e9 s9 m9 bl9 me9 c9 A9 ls hAe E hRt hLk hK hl hw
  have Ex := E.1
  have Eb := E.2.1
  refine lv_aload_n Ex Eb dX8_skippedMonths_0 rfl (lv_at hl 0 rfl) ?_
  refine lv_iload_n Ex Eb dX8_skippedMonths_1 rfl (lv_at hl 1 rfl) ?_
  refine lv_bipush (v := iI 9) Ex Eb dX8_skippedMonths_2 rfl ?_
  refine lo_callV (q0 := 0) (rest := []) E hK hw (kX8_field l X d M w i 9 (hWI) (by omega) (by omega)) (cwV 2 E.2.2.2.2 gX8_skippedMonths_X8_field rfl rfl rfl (by decide +kernel) ⟨Nat.le_of_ble_eq_true rfl, Nat.le_of_ble_eq_true rfl⟩) rfl rfl [0, 1] rfl (by decide) hl.1 rfl rfl (Nat.le_of_ble_eq_true rfl) dX8_skippedMonths_4 ⟨Nat.le_of_ble_eq_true rfl, Nat.le_of_ble_eq_true rfl⟩ (fun v w1 H locs hq hw => ?_)
  obtain ⟨N1, r2, q4_0, q4_1, rfl, rfl⟩ := hq
  have hw : lo_Wd X ([oX8 (d 0) (N1 0) (d 1) (d 2) (N1 3) (d 3) (N1 5) (d 4) (d 5) (d 6) (N1 9) (d 7) (N1 11) (N1 12) (N1 13) (N1 14) (N1 15) (N1 16) (N1 17) (N1 18) (N1 19) (N1 20) (N1 21) (N1 22) (N1 23) (N1 24) (N1 25) (N1 26) (N1 27) (N1 28), arI X (d 1) 122 w]) A9 s9.heap H locs := hw
  refine W.eq (g2 := F0 m9 7 ls [.int (iI r2)]) rfl ?_
  exact lo_iret E hRt hLk hK hAe hw dX8_skippedMonths_7 rfl ⟨N1, r2, (by first | exact q3_0 | exact q4_0), (by first | exact q3_1 | exact q4_1), rfl, rfl⟩
set_option maxHeartbeats 4000000 in
set_option maxRecDepth 100000 in
theorem kX8_noOpen (l : Launch) (X : KX) (d : Nat → Nat) (M w : Nat → Int) (i : Int) (hWI : WI w) (hi : i32 i) : CM l X yX8_noOpen wsX8_noOpen ({ frames := 2, cells := 0, slots := 0, locals := 45 }) [.ref (d 0), .int (iI i)] ([oX8 (d 0) (M 0) (d 1) (d 2) (M 3) (d 3) (M 5) (d 4) (d 5) (d 6) (M 9) (d 7) (M 11) (M 12) (M 13) (M 14) (M 15) (M 16) (M 17) (M 18) (M 19) (M 20) (M 21) (M 22) (M 23) (M 24) (M 25) (M 26) (M 27) (M 28), arI X (d 1) 122 w]) (fun v9 w9 => ∃ z : Int, ∃ t : Int, ((z = 0 ∧ t = 0 ∧ 0 ≤ i ∧ i < w 0 ∧ 0 < wOf w i 1) ∨ (z = 1 ∧ t = 0 ∧ 0 ≤ i ∧ i < w 0 ∧ wOf w i 1 ≤ 0) ∨ (z = 1 ∧ t = 1 ∧ ¬ (0 ≤ i ∧ i < w 0))) ∧ v9 = some (.int (iI z)) ∧ w9 = [oX8 (d 0) t (d 1) (d 2) (M 3) (d 3) (M 5) (d 4) (d 5) (d 6) (M 9) (d 7) (M 11) (M 12) (M 13) (M 14) (M 15) (M 16) (M 17) (M 18) (M 19) (M 20) (M 21) (M 22) (M 23) (M 24) (M 25) (M 26) (M 27) (M 28), arI X (d 1) 122 w]) 0 0 := by
  refine lo_enter (cc := cX8_noOpen) (maxL := 2) (ret := (some .boolean)) (lv := [(0, .ref (d 0)), (1, .int (iI i))]) (by decide) rfl rfl (Nat.le_of_ble_eq_true rfl) ?_
  intro p9 e9 s9 m9 bl9 me9 c9 A9 ls hAe E hRt hLk hK hl hw
  have Ex := E.1
  have Eb := E.2.1
  have huRX8 : ∀ w ∈ u_ws RX8 TX8 29, w ∈ wsX8_noOpen := by decide +kernel
  have hf56 : (Cond.fieldLink RX8 56 "LoanScheduleModel" "thrown" "I").before _ s9 = true := E.2.2.2.2 _ (List.mem_of_getElem? (i := 1) rfl)
  obtain ⟨⟨hn0, hn1⟩, ⟨hb0, hb1⟩, hL⟩ := id hWI
  refine lv_aload_n Ex Eb dX8_noOpen_0 rfl (lv_at hl 0 rfl) ?_
  refine lv_iconst (v := iI 0) Ex Eb dX8_noOpen_1 rfl ?_
  refine lo_put E hK hw huRX8 tyX8 tyX8_ok nmX8 0 hf56 rfl 0 rfl rfl (by decide) rfl rfl rfl rfl (Nat.le_of_ble_eq_true rfl) (ws' := [oX8 (d 0) 0 (d 1) (d 2) (M 3) (d 3) (M 5) (d 4) (d 5) (d 6) (M 9) (d 7) (M 11) (M 12) (M 13) (M 14) (M 15) (M 16) (M 17) (M 18) (M 19) (M 20) (M 21) (M 22) (M 23) (M 24) (M 25) (M 26) (M 27) (M 28), arI X (d 1) 122 w]) rfl dX8_noOpen_2 (fun H locs hw => ?_)
  refine lv_aload_n Ex Eb dX8_noOpen_5 rfl (lv_at hl 0 rfl) ?_
  refine lv_iload_n Ex Eb dX8_noOpen_6 rfl (lv_at hl 1 rfl) ?_
  refine lo_callV (q0 := 0) (rest := []) E hK hw (kX8_noLoan l X d (uI M 0 0) w i (hWI) (by omega)) (cwV 1 E.2.2.2.2 gX8_noOpen_X8_noLoan rfl rfl rfl (by decide +kernel) ⟨Nat.le_of_ble_eq_true rfl, Nat.le_of_ble_eq_true rfl⟩) rfl rfl [0, 1] rfl (by decide) hl.1 rfl rfl (Nat.le_of_ble_eq_true rfl) dX8_noOpen_7 ⟨Nat.le_of_ble_eq_true rfl, Nat.le_of_ble_eq_true rfl⟩ (fun v w1 H locs hq hw => ?_)
  obtain ⟨z1, t2, q7_0, rfl, rfl⟩ := hq
  change (z1 = 0 ∧ t2 = 0 ∧ 0 ≤ i ∧ i < w 0) ∨ (z1 = 1 ∧ t2 = 1 ∧ ¬ (0 ≤ i ∧ i < w 0)) at q7_0
  have hw : lo_Wd X ([oX8 (d 0) t2 (d 1) (d 2) (M 3) (d 3) (M 5) (d 4) (d 5) (d 6) (M 9) (d 7) (M 11) (M 12) (M 13) (M 14) (M 15) (M 16) (M 17) (M 18) (M 19) (M 20) (M 21) (M 22) (M 23) (M 24) (M 25) (M 26) (M 27) (M 28), arI X (d 1) 122 w]) A9 s9.heap H locs := hw
  refine W.eq (g2 := F0 m9 10 ls [.int (iI z1)]) rfl ?_
  refine lo_if_ne (tgt := 21) E dX8_noOpen_10 (by decide) (by omega) (fun c3 => ?_) (fun c3 => ?_)
  · skip
    refine lv_iconst (v := iI 1) Ex Eb dX8_noOpen_21 rfl ?_
    refine lv_goto (tgt := 26) Ex Eb dX8_noOpen_22 (by decide) ?_
    exact lo_zret E hRt hLk hK hAe hw dX8_noOpen_26 rfl rfl ⟨1, t2, (by omega), rfl, rfl⟩
  · skip
    have hW1 := WI_1 hWI (i := i) (by omega) (by omega)
    refine lv_aload_n Ex Eb dX8_noOpen_13 rfl (lv_at hl 0 rfl) ?_
    refine lv_iload_n Ex Eb dX8_noOpen_14 rfl (lv_at hl 1 rfl) ?_
    refine lo_callV (q0 := 0) (rest := []) E hK hw (kX8_isRunning l X d (uI M 0 t2) w i (by omega) (by omega)) (cwV 1 E.2.2.2.2 gX8_noOpen_X8_isRunning rfl rfl rfl (by decide +kernel) ⟨Nat.le_of_ble_eq_true rfl, Nat.le_of_ble_eq_true rfl⟩) rfl rfl [0, 1] rfl (by decide) hl.1 rfl rfl (Nat.le_of_ble_eq_true rfl) dX8_noOpen_15 ⟨Nat.le_of_ble_eq_true rfl, Nat.le_of_ble_eq_true rfl⟩ (fun v w1 H locs hq hw => ?_)
    obtain ⟨r4, q15_0, rfl, rfl⟩ := hq
    have hw : lo_Wd X ([oX8 (d 0) t2 (d 1) (d 2) (M 3) (d 3) (M 5) (d 4) (d 5) (d 6) (M 9) (d 7) (M 11) (M 12) (M 13) (M 14) (M 15) (M 16) (M 17) (M 18) (M 19) (M 20) (M 21) (M 22) (M 23) (M 24) (M 25) (M 26) (M 27) (M 28), arI X (d 1) 122 w]) A9 s9.heap H locs := hw
    refine W.eq (g2 := F0 m9 18 ls [.int (iI r4)]) rfl ?_
    refine lo_if_ne (tgt := 25) E dX8_noOpen_18 (by decide) (by omega) (fun c5 => ?_) (fun c5 => ?_)
    · skip
      refine lv_iconst (v := iI 0) Ex Eb dX8_noOpen_25 rfl ?_
      exact lo_zret E hRt hLk hK hAe hw dX8_noOpen_26 rfl rfl ⟨0, t2, (by omega), rfl, rfl⟩
    · skip
      refine lv_iconst (v := iI 1) Ex Eb dX8_noOpen_21 rfl ?_
      refine lv_goto (tgt := 26) Ex Eb dX8_noOpen_22 (by decide) ?_
      exact lo_zret E hRt hLk hK hAe hw dX8_noOpen_26 rfl rfl ⟨1, t2, (by omega), rfl, rfl⟩
set_option maxHeartbeats 4000000 in
set_option maxRecDepth 100000 in
theorem kX8_interestDue (l : Launch) (X : KX) (d : Nat → Nat) (M w : Nat → Int) (i : Int) (hWI : WI w) (hi : i32 i) : CM l X yX8_interestDue wsX8_interestDue ({ frames := 3, cells := 0, slots := 0, locals := 66 }) [.ref (d 0), .int (iI i)] ([oX8 (d 0) (M 0) (d 1) (d 2) (M 3) (d 3) (M 5) (d 4) (d 5) (d 6) (M 9) (d 7) (M 11) (M 12) (M 13) (M 14) (M 15) (M 16) (M 17) (M 18) (M 19) (M 20) (M 21) (M 22) (M 23) (M 24) (M 25) (M 26) (M 27) (M 28), arI X (d 1) 122 w]) (fun v9 w9 => ∃ N : Nat → Int, ∃ r : Int, (sameP M N) ∧ ((N 0 = 0 ∧ 0 ≤ i ∧ i < w 0 ∧ r = fI (wOf w i 1) (wOf w i 2) (wOf w i 5)) ∨ (N 0 = 1 ∧ ¬ (0 ≤ i ∧ i < w 0))) ∧ v9 = some (.int (iI r)) ∧ w9 = [oX8 (d 0) (N 0) (d 1) (d 2) (N 3) (d 3) (N 5) (d 4) (d 5) (d 6) (N 9) (d 7) (N 11) (N 12) (N 13) (N 14) (N 15) (N 16) (N 17) (N 18) (N 19) (N 20) (N 21) (N 22) (N 23) (N 24) (N 25) (N 26) (N 27) (N 28), arI X (d 1) 122 w]) 0 0 := by
  refine lo_enter (cc := cX8_interestDue) (maxL := 2) (ret := (some .int)) (lv := [(0, .ref (d 0)), (1, .int (iI i))]) (by decide) rfl rfl (Nat.le_of_ble_eq_true rfl) ?_
  intro p9 e9 s9 m9 bl9 me9 c9 A9 ls hAe E hRt hLk hK hl hw
  have Ex := E.1
  have Eb := E.2.1
  have huRX8 : ∀ w ∈ u_ws RX8 TX8 29, w ∈ wsX8_interestDue := by decide +kernel
  have hf94 : (Cond.fieldLink RX8 94 "LoanScheduleModel" "walkInterest" "J").before _ s9 = true := E.2.2.2.2 _ (List.mem_of_getElem? (i := 1) rfl)
  obtain ⟨⟨hn0, hn1⟩, ⟨hb0, hb1⟩, hL⟩ := id hWI
  refine lv_aload_n Ex Eb dX8_interestDue_0 rfl (lv_at hl 0 rfl) ?_
  refine lv_iload_n Ex Eb dX8_interestDue_1 rfl (lv_at hl 1 rfl) ?_
  refine lo_callV (q0 := 0) (rest := []) E hK hw (kX8_noOpen l X d M w i (hWI) (by omega)) (cwV 1 E.2.2.2.2 gX8_interestDue_X8_noOpen rfl rfl rfl (by decide +kernel) ⟨Nat.le_of_ble_eq_true rfl, Nat.le_of_ble_eq_true rfl⟩) rfl rfl [0, 1] rfl (by decide) hl.1 rfl rfl (Nat.le_of_ble_eq_true rfl) dX8_interestDue_2 ⟨Nat.le_of_ble_eq_true rfl, Nat.le_of_ble_eq_true rfl⟩ (fun v w1 H locs hq hw => ?_)
  obtain ⟨z1, t2, q2_0, rfl, rfl⟩ := hq
  have hw : lo_Wd X ([oX8 (d 0) t2 (d 1) (d 2) (M 3) (d 3) (M 5) (d 4) (d 5) (d 6) (M 9) (d 7) (M 11) (M 12) (M 13) (M 14) (M 15) (M 16) (M 17) (M 18) (M 19) (M 20) (M 21) (M 22) (M 23) (M 24) (M 25) (M 26) (M 27) (M 28), arI X (d 1) 122 w]) A9 s9.heap H locs := hw
  refine W.eq (g2 := F0 m9 5 ls [.int (iI z1)]) rfl ?_
  refine lo_if_eq (tgt := 10) E dX8_interestDue_5 (by decide) (by omega) (fun c3 => ?_) (fun c3 => ?_)
  · skip
    have hLi := hL i (by omega) (by omega)
    refine lv_aload_n Ex Eb dX8_interestDue_10 rfl (lv_at hl 0 rfl) ?_
    refine lv_iload_n Ex Eb dX8_interestDue_11 rfl (lv_at hl 1 rfl) ?_
    refine lo_callV (q0 := 0) (rest := []) E hK hw (kX8_nextMonth l X d (uI M 0 t2) w i (by omega) (hLi)) (cwV 1 E.2.2.2.2 gX8_interestDue_X8_nextMonth rfl rfl rfl (by decide +kernel) ⟨Nat.le_of_ble_eq_true rfl, Nat.le_of_ble_eq_true rfl⟩) rfl rfl [0, 1] rfl (by decide) hl.1 rfl rfl (Nat.le_of_ble_eq_true rfl) dX8_interestDue_12 ⟨Nat.le_of_ble_eq_true rfl, Nat.le_of_ble_eq_true rfl⟩ (fun v w1 H locs hq hw => ?_)
    obtain ⟨rfl, rfl⟩ := hq
    have hw : lo_Wd X ([oX8 (d 0) (nmM (uI M 0 t2) w i 0) (d 1) (d 2) (nmM (uI M 0 t2) w i 3) (d 3) (nmM (uI M 0 t2) w i 5) (d 4) (d 5) (d 6) (nmM (uI M 0 t2) w i 9) (d 7) (nmM (uI M 0 t2) w i 11) (nmM (uI M 0 t2) w i 12) (nmM (uI M 0 t2) w i 13) (nmM (uI M 0 t2) w i 14) (nmM (uI M 0 t2) w i 15) (nmM (uI M 0 t2) w i 16) (nmM (uI M 0 t2) w i 17) (nmM (uI M 0 t2) w i 18) (nmM (uI M 0 t2) w i 19) (nmM (uI M 0 t2) w i 20) (nmM (uI M 0 t2) w i 21) (nmM (uI M 0 t2) w i 22) (nmM (uI M 0 t2) w i 23) (nmM (uI M 0 t2) w i 24) (nmM (uI M 0 t2) w i 25) (nmM (uI M 0 t2) w i 26) (nmM (uI M 0 t2) w i 27) (nmM (uI M 0 t2) w i 28), arI X (d 1) 122 w]) A9 s9.heap H locs := hw
    refine W.eq (g2 := F0 m9 15 ls []) rfl ?_
    refine lv_aload_n Ex Eb dX8_interestDue_15 rfl (lv_at hl 0 rfl) ?_
    refine lo_get E hK hw huRX8 14 hf94 rfl 0 rfl rfl (by decide) (v := .long (iL (nmM (uI M 0 t2) w i 14))) rfl dX8_interestDue_16 ?_
    refine lo_l2i E dX8_interestDue_19 ?_
    exact lo_iret E hRt hLk hK hAe hw dX8_interestDue_20 rfl ⟨nmM (uI M 0 t2) w i, nmM (uI M 0 t2) w i 14, (sameP_w (nmM_same _ w i)), (Or.inl ⟨(sameW_0 (nmM_same _ w i)).trans (uI_s.trans (by omega)), by omega, by omega, rfl⟩), rfl, rfl⟩
  · skip
    refine lv_iconst (v := iI 0) Ex Eb dX8_interestDue_8 rfl ?_
    exact lo_iret E hRt hLk hK hAe hw dX8_interestDue_9 rfl ⟨uI M 0 t2, 0, (sameP_t), (by simp only [uI_s]; rcases (show (0 ≤ i ∧ i < w 0) ∨ ¬ (0 ≤ i ∧ i < w 0) by omega) with hc9 | hc9; (have hz := fI_c (hL i hc9.1 hc9.2) (show wOf w i 1 ≤ 0 by omega); omega); omega), rfl, rfl⟩
set_option maxHeartbeats 4000000 in
set_option maxRecDepth 100000 in
theorem kX8_amountDue (l : Launch) (X : KX) (d : Nat → Nat) (M w : Nat → Int) (i : Int) (hWI : WI w) (hi : i32 i) : CM l X yX8_amountDue wsX8_amountDue ({ frames := 3, cells := 0, slots := 0, locals := 66 }) [.ref (d 0), .int (iI i)] ([oX8 (d 0) (M 0) (d 1) (d 2) (M 3) (d 3) (M 5) (d 4) (d 5) (d 6) (M 9) (d 7) (M 11) (M 12) (M 13) (M 14) (M 15) (M 16) (M 17) (M 18) (M 19) (M 20) (M 21) (M 22) (M 23) (M 24) (M 25) (M 26) (M 27) (M 28), arI X (d 1) 122 w]) (fun v9 w9 => ∃ N : Nat → Int, ∃ r : Int, (sameP M N) ∧ ((N 0 = 0 ∧ 0 ≤ i ∧ i < w 0 ∧ r = dueL (WL w i)) ∨ (N 0 = 1 ∧ ¬ (0 ≤ i ∧ i < w 0))) ∧ v9 = some (.int (iI r)) ∧ w9 = [oX8 (d 0) (N 0) (d 1) (d 2) (N 3) (d 3) (N 5) (d 4) (d 5) (d 6) (N 9) (d 7) (N 11) (N 12) (N 13) (N 14) (N 15) (N 16) (N 17) (N 18) (N 19) (N 20) (N 21) (N 22) (N 23) (N 24) (N 25) (N 26) (N 27) (N 28), arI X (d 1) 122 w]) 0 0 := by
  refine lo_enter (cc := cX8_amountDue) (maxL := 2) (ret := (some .int)) (lv := [(0, .ref (d 0)), (1, .int (iI i))]) (by decide) rfl rfl (Nat.le_of_ble_eq_true rfl) ?_
  intro p9 e9 s9 m9 bl9 me9 c9 A9 ls hAe E hRt hLk hK hl hw
  have Ex := E.1
  have Eb := E.2.1
  have huRX8 : ∀ w ∈ u_ws RX8 TX8 29, w ∈ wsX8_amountDue := by decide +kernel
  have hf91 : (Cond.fieldLink RX8 91 "LoanScheduleModel" "walkDue" "J").before _ s9 = true := E.2.2.2.2 _ (List.mem_of_getElem? (i := 1) rfl)
  obtain ⟨⟨hn0, hn1⟩, ⟨hb0, hb1⟩, hL⟩ := id hWI
  refine lv_aload_n Ex Eb dX8_amountDue_0 rfl (lv_at hl 0 rfl) ?_
  refine lv_iload_n Ex Eb dX8_amountDue_1 rfl (lv_at hl 1 rfl) ?_
  refine lo_callV (q0 := 0) (rest := []) E hK hw (kX8_noOpen l X d M w i (hWI) (by omega)) (cwV 1 E.2.2.2.2 gX8_amountDue_X8_noOpen rfl rfl rfl (by decide +kernel) ⟨Nat.le_of_ble_eq_true rfl, Nat.le_of_ble_eq_true rfl⟩) rfl rfl [0, 1] rfl (by decide) hl.1 rfl rfl (Nat.le_of_ble_eq_true rfl) dX8_amountDue_2 ⟨Nat.le_of_ble_eq_true rfl, Nat.le_of_ble_eq_true rfl⟩ (fun v w1 H locs hq hw => ?_)
  obtain ⟨z1, t2, q2_0, rfl, rfl⟩ := hq
  have hw : lo_Wd X ([oX8 (d 0) t2 (d 1) (d 2) (M 3) (d 3) (M 5) (d 4) (d 5) (d 6) (M 9) (d 7) (M 11) (M 12) (M 13) (M 14) (M 15) (M 16) (M 17) (M 18) (M 19) (M 20) (M 21) (M 22) (M 23) (M 24) (M 25) (M 26) (M 27) (M 28), arI X (d 1) 122 w]) A9 s9.heap H locs := hw
  refine W.eq (g2 := F0 m9 5 ls [.int (iI z1)]) rfl ?_
  refine lo_if_eq (tgt := 10) E dX8_amountDue_5 (by decide) (by omega) (fun c3 => ?_) (fun c3 => ?_)
  · skip
    have hLi := hL i (by omega) (by omega)
    refine lv_aload_n Ex Eb dX8_amountDue_10 rfl (lv_at hl 0 rfl) ?_
    refine lv_iload_n Ex Eb dX8_amountDue_11 rfl (lv_at hl 1 rfl) ?_
    refine lo_callV (q0 := 0) (rest := []) E hK hw (kX8_nextMonth l X d (uI M 0 t2) w i (by omega) (hLi)) (cwV 1 E.2.2.2.2 gX8_amountDue_X8_nextMonth rfl rfl rfl (by decide +kernel) ⟨Nat.le_of_ble_eq_true rfl, Nat.le_of_ble_eq_true rfl⟩) rfl rfl [0, 1] rfl (by decide) hl.1 rfl rfl (Nat.le_of_ble_eq_true rfl) dX8_amountDue_12 ⟨Nat.le_of_ble_eq_true rfl, Nat.le_of_ble_eq_true rfl⟩ (fun v w1 H locs hq hw => ?_)
    obtain ⟨rfl, rfl⟩ := hq
    have hw : lo_Wd X ([oX8 (d 0) (nmM (uI M 0 t2) w i 0) (d 1) (d 2) (nmM (uI M 0 t2) w i 3) (d 3) (nmM (uI M 0 t2) w i 5) (d 4) (d 5) (d 6) (nmM (uI M 0 t2) w i 9) (d 7) (nmM (uI M 0 t2) w i 11) (nmM (uI M 0 t2) w i 12) (nmM (uI M 0 t2) w i 13) (nmM (uI M 0 t2) w i 14) (nmM (uI M 0 t2) w i 15) (nmM (uI M 0 t2) w i 16) (nmM (uI M 0 t2) w i 17) (nmM (uI M 0 t2) w i 18) (nmM (uI M 0 t2) w i 19) (nmM (uI M 0 t2) w i 20) (nmM (uI M 0 t2) w i 21) (nmM (uI M 0 t2) w i 22) (nmM (uI M 0 t2) w i 23) (nmM (uI M 0 t2) w i 24) (nmM (uI M 0 t2) w i 25) (nmM (uI M 0 t2) w i 26) (nmM (uI M 0 t2) w i 27) (nmM (uI M 0 t2) w i 28), arI X (d 1) 122 w]) A9 s9.heap H locs := hw
    refine W.eq (g2 := F0 m9 15 ls []) rfl ?_
    refine lv_aload_n Ex Eb dX8_amountDue_15 rfl (lv_at hl 0 rfl) ?_
    refine lo_get E hK hw huRX8 15 hf91 rfl 0 rfl rfl (by decide) (v := .long (iL (nmM (uI M 0 t2) w i 15))) rfl dX8_amountDue_16 ?_
    refine lo_l2i E dX8_amountDue_19 ?_
    exact lo_iret E hRt hLk hK hAe hw dX8_amountDue_20 rfl ⟨nmM (uI M 0 t2) w i, nmM (uI M 0 t2) w i 15, (sameP_w (nmM_same _ w i)), (Or.inl ⟨(sameW_0 (nmM_same _ w i)).trans (uI_s.trans (by omega)), by omega, by omega, rfl⟩), rfl, rfl⟩
  · skip
    refine lv_iconst (v := iI 0) Ex Eb dX8_amountDue_8 rfl ?_
    exact lo_iret E hRt hLk hK hAe hw dX8_amountDue_9 rfl ⟨uI M 0 t2, 0, (sameP_t), (by simp only [uI_s]; rcases (show (0 ≤ i ∧ i < w 0) ∨ ¬ (0 ≤ i ∧ i < w 0) by omega) with hc9 | hc9; (have hz := dueL_c (hL i hc9.1 hc9.2) (show wOf w i 1 ≤ 0 by omega); omega); omega), rfl, rfl⟩
set_option maxHeartbeats 4000000 in
set_option maxRecDepth 100000 in
theorem kX8_loanCount (l : Launch) (X : KX) (d : Nat → Nat) (M w : Nat → Int) : CM l X yX8_loanCount wsX8_loanCount ({ frames := 0, cells := 0, slots := 0, locals := 0 }) [.ref (d 0)] ([oX8 (d 0) (M 0) (d 1) (d 2) (M 3) (d 3) (M 5) (d 4) (d 5) (d 6) (M 9) (d 7) (M 11) (M 12) (M 13) (M 14) (M 15) (M 16) (M 17) (M 18) (M 19) (M 20) (M 21) (M 22) (M 23) (M 24) (M 25) (M 26) (M 27) (M 28), arI X (d 1) 122 w]) (fun v9 w9 => v9 = some (.int (iI (w 0))) ∧ w9 = [oX8 (d 0) 0 (d 1) (d 2) (M 3) (d 3) (M 5) (d 4) (d 5) (d 6) (M 9) (d 7) (M 11) (M 12) (M 13) (M 14) (M 15) (M 16) (M 17) (M 18) (M 19) (M 20) (M 21) (M 22) (M 23) (M 24) (M 25) (M 26) (M 27) (M 28), arI X (d 1) 122 w]) 0 0 := by
  refine lo_enter (cc := cX8_loanCount) (maxL := 1) (ret := (some .int)) (lv := [(0, .ref (d 0))]) (by decide) rfl rfl (Nat.le_of_ble_eq_true rfl) ?_
  intro p9 e9 s9 m9 bl9 me9 c9 A9 ls hAe E hRt hLk hK hl hw
  have Ex := E.1
  have Eb := E.2.1
  have huRX8 : ∀ w ∈ u_ws RX8 TX8 29, w ∈ wsX8_loanCount := by decide +kernel
  have hf56 : (Cond.fieldLink RX8 56 "LoanScheduleModel" "thrown" "I").before _ s9 = true := E.2.2.2.2 _ (List.mem_of_getElem? (i := 1) rfl)
  have hf9 : (Cond.fieldLink RX8 9 "LoanScheduleModel" "w" "[I").before _ s9 = true := E.2.2.2.2 _ (List.mem_of_getElem? (i := 2) rfl)
  refine lv_aload_n Ex Eb dX8_loanCount_0 rfl (lv_at hl 0 rfl) ?_
  refine lv_iconst (v := iI 0) Ex Eb dX8_loanCount_1 rfl ?_
  refine lo_put E hK hw huRX8 tyX8 tyX8_ok nmX8 0 hf56 rfl 0 rfl rfl (by decide) rfl rfl rfl rfl (Nat.le_of_ble_eq_true rfl) (ws' := [oX8 (d 0) 0 (d 1) (d 2) (M 3) (d 3) (M 5) (d 4) (d 5) (d 6) (M 9) (d 7) (M 11) (M 12) (M 13) (M 14) (M 15) (M 16) (M 17) (M 18) (M 19) (M 20) (M 21) (M 22) (M 23) (M 24) (M 25) (M 26) (M 27) (M 28), arI X (d 1) 122 w]) rfl dX8_loanCount_2 (fun H locs hw => ?_)
  refine lv_aload_n Ex Eb dX8_loanCount_5 rfl (lv_at hl 0 rfl) ?_
  refine lo_get E hK hw huRX8 1 hf9 rfl 0 rfl rfl (by decide) (v := .ref (d 1)) rfl dX8_loanCount_6 ?_
  refine lv_iconst (v := iI 0) Ex Eb dX8_loanCount_9 rfl ?_
  refine lo_iald E hK hw 1 rfl (by omega) dX8_loanCount_10 ?_
  refine W.eq (g2 := F0 m9 11 ls [.int (iI (w 0))]) rfl ?_
  exact lo_iret E hRt hLk hK hAe hw dX8_loanCount_11 rfl ⟨rfl, rfl⟩
set_option maxHeartbeats 4000000 in
set_option maxRecDepth 100000 in
theorem kX8_entryCount (l : Launch) (X : KX) (d : Nat → Nat) (M w : Nat → Int) : CM l X yX8_entryCount wsX8_entryCount ({ frames := 0, cells := 0, slots := 0, locals := 0 }) [.ref (d 0)] ([oX8 (d 0) (M 0) (d 1) (d 2) (M 3) (d 3) (M 5) (d 4) (d 5) (d 6) (M 9) (d 7) (M 11) (M 12) (M 13) (M 14) (M 15) (M 16) (M 17) (M 18) (M 19) (M 20) (M 21) (M 22) (M 23) (M 24) (M 25) (M 26) (M 27) (M 28), arI X (d 1) 122 w]) (fun v9 w9 => v9 = some (.int (iI (w 1))) ∧ w9 = [oX8 (d 0) 0 (d 1) (d 2) (M 3) (d 3) (M 5) (d 4) (d 5) (d 6) (M 9) (d 7) (M 11) (M 12) (M 13) (M 14) (M 15) (M 16) (M 17) (M 18) (M 19) (M 20) (M 21) (M 22) (M 23) (M 24) (M 25) (M 26) (M 27) (M 28), arI X (d 1) 122 w]) 0 0 := by
  refine lo_enter (cc := cX8_entryCount) (maxL := 1) (ret := (some .int)) (lv := [(0, .ref (d 0))]) (by decide) rfl rfl (Nat.le_of_ble_eq_true rfl) ?_
  intro p9 e9 s9 m9 bl9 me9 c9 A9 ls hAe E hRt hLk hK hl hw
  have Ex := E.1
  have Eb := E.2.1
  have huRX8 : ∀ w ∈ u_ws RX8 TX8 29, w ∈ wsX8_entryCount := by decide +kernel
  have hf56 : (Cond.fieldLink RX8 56 "LoanScheduleModel" "thrown" "I").before _ s9 = true := E.2.2.2.2 _ (List.mem_of_getElem? (i := 1) rfl)
  have hf9 : (Cond.fieldLink RX8 9 "LoanScheduleModel" "w" "[I").before _ s9 = true := E.2.2.2.2 _ (List.mem_of_getElem? (i := 2) rfl)
  refine lv_aload_n Ex Eb dX8_entryCount_0 rfl (lv_at hl 0 rfl) ?_
  refine lv_iconst (v := iI 0) Ex Eb dX8_entryCount_1 rfl ?_
  refine lo_put E hK hw huRX8 tyX8 tyX8_ok nmX8 0 hf56 rfl 0 rfl rfl (by decide) rfl rfl rfl rfl (Nat.le_of_ble_eq_true rfl) (ws' := [oX8 (d 0) 0 (d 1) (d 2) (M 3) (d 3) (M 5) (d 4) (d 5) (d 6) (M 9) (d 7) (M 11) (M 12) (M 13) (M 14) (M 15) (M 16) (M 17) (M 18) (M 19) (M 20) (M 21) (M 22) (M 23) (M 24) (M 25) (M 26) (M 27) (M 28), arI X (d 1) 122 w]) rfl dX8_entryCount_2 (fun H locs hw => ?_)
  refine lv_aload_n Ex Eb dX8_entryCount_5 rfl (lv_at hl 0 rfl) ?_
  refine lo_get E hK hw huRX8 1 hf9 rfl 0 rfl rfl (by decide) (v := .ref (d 1)) rfl dX8_entryCount_6 ?_
  refine lv_iconst (v := iI 1) Ex Eb dX8_entryCount_9 rfl ?_
  refine lo_iald E hK hw 1 rfl (by omega) dX8_entryCount_10 ?_
  refine W.eq (g2 := F0 m9 11 ls [.int (iI (w 1))]) rfl ?_
  exact lo_iret E hRt hLk hK hAe hw dX8_entryCount_11 rfl ⟨rfl, rfl⟩
set_option maxHeartbeats 4000000 in
set_option maxRecDepth 100000 in
theorem kX8_openCount (l : Launch) (X : KX) (d : Nat → Nat) (M w : Nat → Int) (hWI : WI w) : CM l X yX8_openCount wsX8_openCount ({ frames := 3, cells := 0, slots := 0, locals := 65 }) [.ref (d 0)] ([oX8 (d 0) (M 0) (d 1) (d 2) (M 3) (d 3) (M 5) (d 4) (d 5) (d 6) (M 9) (d 7) (M 11) (M 12) (M 13) (M 14) (M 15) (M 16) (M 17) (M 18) (M 19) (M 20) (M 21) (M 22) (M 23) (M 24) (M 25) (M 26) (M 27) (M 28), arI X (d 1) 122 w]) (fun v9 w9 => v9 = some (.int (iI (cnt (LWf w) (w 0).toNat))) ∧ w9 = [oX8 (d 0) 0 (d 1) (d 2) (M 3) (d 3) (M 5) (d 4) (d 5) (d 6) (M 9) (d 7) (M 11) (M 12) (M 13) (M 14) (M 15) (M 16) (M 17) (M 18) (M 19) (M 20) (M 21) (M 22) (M 23) (M 24) (M 25) (M 26) (M 27) (M 28), arI X (d 1) 122 w]) 0 0 := by
  refine lo_enter (cc := cX8_openCount) (maxL := 1) (ret := (some .int)) (lv := [(0, .ref (d 0))]) (by decide) rfl rfl (Nat.le_of_ble_eq_true rfl) ?_
  intro p9 e9 s9 m9 bl9 me9 c9 A9 ls hAe E hRt hLk hK hl hw
  have Ex := E.1
  have Eb := E.2.1
  have huRX8 : ∀ w ∈ u_ws RX8 TX8 29, w ∈ wsX8_openCount := by decide +kernel
  have hf56 : (Cond.fieldLink RX8 56 "LoanScheduleModel" "thrown" "I").before _ s9 = true := E.2.2.2.2 _ (List.mem_of_getElem? (i := 1) rfl)
  refine lv_aload_n Ex Eb dX8_openCount_0 rfl (lv_at hl 0 rfl) ?_
  refine lv_iconst (v := iI 0) Ex Eb dX8_openCount_1 rfl ?_
  refine lo_put E hK hw huRX8 tyX8 tyX8_ok nmX8 0 hf56 rfl 0 rfl rfl (by decide) rfl rfl rfl rfl (Nat.le_of_ble_eq_true rfl) (ws' := [oX8 (d 0) 0 (d 1) (d 2) (M 3) (d 3) (M 5) (d 4) (d 5) (d 6) (M 9) (d 7) (M 11) (M 12) (M 13) (M 14) (M 15) (M 16) (M 17) (M 18) (M 19) (M 20) (M 21) (M 22) (M 23) (M 24) (M 25) (M 26) (M 27) (M 28), arI X (d 1) 122 w]) rfl dX8_openCount_2 (fun H locs hw => ?_)
  refine lv_aload_n Ex Eb dX8_openCount_5 rfl (lv_at hl 0 rfl) ?_
  refine lo_callV (q0 := 0) (rest := []) E hK hw (kX8_openLoans l X d (uI M 0 0) w (hWI)) (cwV 0 E.2.2.2.2 gX8_openCount_X8_openLoans rfl rfl rfl (by decide +kernel) ⟨Nat.le_of_ble_eq_true rfl, Nat.le_of_ble_eq_true rfl⟩) rfl rfl [0, 1] rfl (by decide) hl.1 rfl rfl (Nat.le_of_ble_eq_true rfl) dX8_openCount_6 ⟨Nat.le_of_ble_eq_true rfl, Nat.le_of_ble_eq_true rfl⟩ (fun v w1 H locs hq hw => ?_)
  obtain ⟨rfl, rfl⟩ := hq
  have hw : lo_Wd X ([oX8 (d 0) 0 (d 1) (d 2) (M 3) (d 3) (M 5) (d 4) (d 5) (d 6) (M 9) (d 7) (M 11) (M 12) (M 13) (M 14) (M 15) (M 16) (M 17) (M 18) (M 19) (M 20) (M 21) (M 22) (M 23) (M 24) (M 25) (M 26) (M 27) (M 28), arI X (d 1) 122 w]) A9 s9.heap H locs := hw
  refine W.eq (g2 := F0 m9 9 ls [.int (iI (cnt (LWf w) (w 0).toNat))]) rfl ?_
  exact lo_iret E hRt hLk hK hAe hw dX8_openCount_9 rfl ⟨rfl, rfl⟩
set_option maxHeartbeats 4000000 in
set_option maxRecDepth 100000 in
theorem kX8_dearestLoan (l : Launch) (X : KX) (d : Nat → Nat) (M w : Nat → Int) (hWI : WI w) : CM l X yX8_dearestLoan wsX8_dearestLoan ({ frames := 3, cells := 0, slots := 0, locals := 65 }) [.ref (d 0)] ([oX8 (d 0) (M 0) (d 1) (d 2) (M 3) (d 3) (M 5) (d 4) (d 5) (d 6) (M 9) (d 7) (M 11) (M 12) (M 13) (M 14) (M 15) (M 16) (M 17) (M 18) (M 19) (M 20) (M 21) (M 22) (M 23) (M 24) (M 25) (M 26) (M 27) (M 28), arI X (d 1) 122 w]) (fun v9 w9 => v9 = some (.int (iI (dst (LWf w) (w 0).toNat))) ∧ w9 = [oX8 (d 0) 0 (d 1) (d 2) (M 3) (d 3) (M 5) (d 4) (d 5) (d 6) (M 9) (d 7) (M 11) (M 12) (M 13) (M 14) (M 15) (M 16) (M 17) (M 18) (M 19) (M 20) (M 21) (M 22) (M 23) (M 24) (M 25) (M 26) (M 27) (M 28), arI X (d 1) 122 w]) 0 0 := by
  refine lo_enter (cc := cX8_dearestLoan) (maxL := 1) (ret := (some .int)) (lv := [(0, .ref (d 0))]) (by decide) rfl rfl (Nat.le_of_ble_eq_true rfl) ?_
  intro p9 e9 s9 m9 bl9 me9 c9 A9 ls hAe E hRt hLk hK hl hw
  have Ex := E.1
  have Eb := E.2.1
  have huRX8 : ∀ w ∈ u_ws RX8 TX8 29, w ∈ wsX8_dearestLoan := by decide +kernel
  have hf56 : (Cond.fieldLink RX8 56 "LoanScheduleModel" "thrown" "I").before _ s9 = true := E.2.2.2.2 _ (List.mem_of_getElem? (i := 1) rfl)
  refine lv_aload_n Ex Eb dX8_dearestLoan_0 rfl (lv_at hl 0 rfl) ?_
  refine lv_iconst (v := iI 0) Ex Eb dX8_dearestLoan_1 rfl ?_
  refine lo_put E hK hw huRX8 tyX8 tyX8_ok nmX8 0 hf56 rfl 0 rfl rfl (by decide) rfl rfl rfl rfl (Nat.le_of_ble_eq_true rfl) (ws' := [oX8 (d 0) 0 (d 1) (d 2) (M 3) (d 3) (M 5) (d 4) (d 5) (d 6) (M 9) (d 7) (M 11) (M 12) (M 13) (M 14) (M 15) (M 16) (M 17) (M 18) (M 19) (M 20) (M 21) (M 22) (M 23) (M 24) (M 25) (M 26) (M 27) (M 28), arI X (d 1) 122 w]) rfl dX8_dearestLoan_2 (fun H locs hw => ?_)
  refine lv_aload_n Ex Eb dX8_dearestLoan_5 rfl (lv_at hl 0 rfl) ?_
  refine lo_callV (q0 := 0) (rest := []) E hK hw (kX8_dearest l X d (uI M 0 0) w (hWI)) (cwV 0 E.2.2.2.2 gX8_dearestLoan_X8_dearest rfl rfl rfl (by decide +kernel) ⟨Nat.le_of_ble_eq_true rfl, Nat.le_of_ble_eq_true rfl⟩) rfl rfl [0, 1] rfl (by decide) hl.1 rfl rfl (Nat.le_of_ble_eq_true rfl) dX8_dearestLoan_6 ⟨Nat.le_of_ble_eq_true rfl, Nat.le_of_ble_eq_true rfl⟩ (fun v w1 H locs hq hw => ?_)
  obtain ⟨rfl, rfl⟩ := hq
  have hw : lo_Wd X ([oX8 (d 0) 0 (d 1) (d 2) (M 3) (d 3) (M 5) (d 4) (d 5) (d 6) (M 9) (d 7) (M 11) (M 12) (M 13) (M 14) (M 15) (M 16) (M 17) (M 18) (M 19) (M 20) (M 21) (M 22) (M 23) (M 24) (M 25) (M 26) (M 27) (M 28), arI X (d 1) 122 w]) A9 s9.heap H locs := hw
  refine W.eq (g2 := F0 m9 9 ls [.int (iI (dst (LWf w) (w 0).toNat))]) rfl ?_
  exact lo_iret E hRt hLk hK hAe hw dX8_dearestLoan_9 rfl ⟨rfl, rfl⟩
set_option maxHeartbeats 4000000 in
set_option maxRecDepth 100000 in
theorem kX8_smallestLoan (l : Launch) (X : KX) (d : Nat → Nat) (M w : Nat → Int) (hWI : WI w) : CM l X yX8_smallestLoan wsX8_smallestLoan ({ frames := 3, cells := 0, slots := 0, locals := 65 }) [.ref (d 0)] ([oX8 (d 0) (M 0) (d 1) (d 2) (M 3) (d 3) (M 5) (d 4) (d 5) (d 6) (M 9) (d 7) (M 11) (M 12) (M 13) (M 14) (M 15) (M 16) (M 17) (M 18) (M 19) (M 20) (M 21) (M 22) (M 23) (M 24) (M 25) (M 26) (M 27) (M 28), arI X (d 1) 122 w]) (fun v9 w9 => v9 = some (.int (iI (sml (LWf w) (w 0).toNat))) ∧ w9 = [oX8 (d 0) 0 (d 1) (d 2) (M 3) (d 3) (M 5) (d 4) (d 5) (d 6) (M 9) (d 7) (M 11) (M 12) (M 13) (M 14) (M 15) (M 16) (M 17) (M 18) (M 19) (M 20) (M 21) (M 22) (M 23) (M 24) (M 25) (M 26) (M 27) (M 28), arI X (d 1) 122 w]) 0 0 := by
  refine lo_enter (cc := cX8_smallestLoan) (maxL := 1) (ret := (some .int)) (lv := [(0, .ref (d 0))]) (by decide) rfl rfl (Nat.le_of_ble_eq_true rfl) ?_
  intro p9 e9 s9 m9 bl9 me9 c9 A9 ls hAe E hRt hLk hK hl hw
  have Ex := E.1
  have Eb := E.2.1
  have huRX8 : ∀ w ∈ u_ws RX8 TX8 29, w ∈ wsX8_smallestLoan := by decide +kernel
  have hf56 : (Cond.fieldLink RX8 56 "LoanScheduleModel" "thrown" "I").before _ s9 = true := E.2.2.2.2 _ (List.mem_of_getElem? (i := 1) rfl)
  refine lv_aload_n Ex Eb dX8_smallestLoan_0 rfl (lv_at hl 0 rfl) ?_
  refine lv_iconst (v := iI 0) Ex Eb dX8_smallestLoan_1 rfl ?_
  refine lo_put E hK hw huRX8 tyX8 tyX8_ok nmX8 0 hf56 rfl 0 rfl rfl (by decide) rfl rfl rfl rfl (Nat.le_of_ble_eq_true rfl) (ws' := [oX8 (d 0) 0 (d 1) (d 2) (M 3) (d 3) (M 5) (d 4) (d 5) (d 6) (M 9) (d 7) (M 11) (M 12) (M 13) (M 14) (M 15) (M 16) (M 17) (M 18) (M 19) (M 20) (M 21) (M 22) (M 23) (M 24) (M 25) (M 26) (M 27) (M 28), arI X (d 1) 122 w]) rfl dX8_smallestLoan_2 (fun H locs hw => ?_)
  refine lv_aload_n Ex Eb dX8_smallestLoan_5 rfl (lv_at hl 0 rfl) ?_
  refine lo_callV (q0 := 0) (rest := []) E hK hw (kX8_smallest l X d (uI M 0 0) w (hWI)) (cwV 0 E.2.2.2.2 gX8_smallestLoan_X8_smallest rfl rfl rfl (by decide +kernel) ⟨Nat.le_of_ble_eq_true rfl, Nat.le_of_ble_eq_true rfl⟩) rfl rfl [0, 1] rfl (by decide) hl.1 rfl rfl (Nat.le_of_ble_eq_true rfl) dX8_smallestLoan_6 ⟨Nat.le_of_ble_eq_true rfl, Nat.le_of_ble_eq_true rfl⟩ (fun v w1 H locs hq hw => ?_)
  obtain ⟨rfl, rfl⟩ := hq
  have hw : lo_Wd X ([oX8 (d 0) 0 (d 1) (d 2) (M 3) (d 3) (M 5) (d 4) (d 5) (d 6) (M 9) (d 7) (M 11) (M 12) (M 13) (M 14) (M 15) (M 16) (M 17) (M 18) (M 19) (M 20) (M 21) (M 22) (M 23) (M 24) (M 25) (M 26) (M 27) (M 28), arI X (d 1) 122 w]) A9 s9.heap H locs := hw
  refine W.eq (g2 := F0 m9 9 ls [.int (iI (sml (LWf w) (w 0).toNat))]) rfl ?_
  exact lo_iret E hRt hLk hK hAe hw dX8_smallestLoan_9 rfl ⟨rfl, rfl⟩
set_option maxHeartbeats 4000000 in
set_option maxRecDepth 100000 in
theorem kX8_totalBalance (l : Launch) (X : KX) (d : Nat → Nat) (M w : Nat → Int) (hWI : WI w) : CM l X yX8_totalBalance wsX8_totalBalance ({ frames := 2, cells := 0, slots := 0, locals := 44 }) [.ref (d 0)] ([oX8 (d 0) (M 0) (d 1) (d 2) (M 3) (d 3) (M 5) (d 4) (d 5) (d 6) (M 9) (d 7) (M 11) (M 12) (M 13) (M 14) (M 15) (M 16) (M 17) (M 18) (M 19) (M 20) (M 21) (M 22) (M 23) (M 24) (M 25) (M 26) (M 27) (M 28), arI X (d 1) 122 w]) (fun v9 w9 => v9 = some (.int (iI (wFld w 1 (w 0).toNat))) ∧ w9 = [oX8 (d 0) 0 (d 1) (d 2) (M 3) (d 3) (M 5) (d 4) (d 5) (d 6) (M 9) (d 7) (M 11) (M 12) (M 13) (M 14) (M 15) (M 16) (M 17) (M 18) (M 19) (M 20) (M 21) (M 22) (M 23) (M 24) (M 25) (M 26) (M 27) (M 28), arI X (d 1) 122 w]) 0 0 := by
  refine lo_enter (cc := cX8_totalBalance) (maxL := 1) (ret := (some .int)) (lv := [(0, .ref (d 0))]) (by decide) rfl rfl (Nat.le_of_ble_eq_true rfl) ?_
  intro p9 e9 s9 m9 bl9 me9 c9 A9 ls hAe E hRt hLk hK hl hw
  have Ex := E.1
  have Eb := E.2.1
  have huRX8 : ∀ w ∈ u_ws RX8 TX8 29, w ∈ wsX8_totalBalance := by decide +kernel
  have hf56 : (Cond.fieldLink RX8 56 "LoanScheduleModel" "thrown" "I").before _ s9 = true := E.2.2.2.2 _ (List.mem_of_getElem? (i := 1) rfl)
  refine lv_aload_n Ex Eb dX8_totalBalance_0 rfl (lv_at hl 0 rfl) ?_
  refine lv_iconst (v := iI 0) Ex Eb dX8_totalBalance_1 rfl ?_
  refine lo_put E hK hw huRX8 tyX8 tyX8_ok nmX8 0 hf56 rfl 0 rfl rfl (by decide) rfl rfl rfl rfl (Nat.le_of_ble_eq_true rfl) (ws' := [oX8 (d 0) 0 (d 1) (d 2) (M 3) (d 3) (M 5) (d 4) (d 5) (d 6) (M 9) (d 7) (M 11) (M 12) (M 13) (M 14) (M 15) (M 16) (M 17) (M 18) (M 19) (M 20) (M 21) (M 22) (M 23) (M 24) (M 25) (M 26) (M 27) (M 28), arI X (d 1) 122 w]) rfl dX8_totalBalance_2 (fun H locs hw => ?_)
  refine lv_aload_n Ex Eb dX8_totalBalance_5 rfl (lv_at hl 0 rfl) ?_
  refine lo_callV (q0 := 0) (rest := []) E hK hw (kX8_allBalances l X d (uI M 0 0) w (hWI)) (cwV 0 E.2.2.2.2 gX8_totalBalance_X8_allBalances rfl rfl rfl (by decide +kernel) ⟨Nat.le_of_ble_eq_true rfl, Nat.le_of_ble_eq_true rfl⟩) rfl rfl [0, 1] rfl (by decide) hl.1 rfl rfl (Nat.le_of_ble_eq_true rfl) dX8_totalBalance_6 ⟨Nat.le_of_ble_eq_true rfl, Nat.le_of_ble_eq_true rfl⟩ (fun v w1 H locs hq hw => ?_)
  obtain ⟨rfl, rfl⟩ := hq
  have hw : lo_Wd X ([oX8 (d 0) 0 (d 1) (d 2) (M 3) (d 3) (M 5) (d 4) (d 5) (d 6) (M 9) (d 7) (M 11) (M 12) (M 13) (M 14) (M 15) (M 16) (M 17) (M 18) (M 19) (M 20) (M 21) (M 22) (M 23) (M 24) (M 25) (M 26) (M 27) (M 28), arI X (d 1) 122 w]) A9 s9.heap H locs := hw
  refine W.eq (g2 := F0 m9 9 ls [.int (iI (wFld w 1 (w 0).toNat))]) rfl ?_
  exact lo_iret E hRt hLk hK hAe hw dX8_totalBalance_9 rfl ⟨rfl, rfl⟩
set_option maxHeartbeats 4000000 in
set_option maxRecDepth 100000 in
theorem kX8_totalDue (l : Launch) (X : KX) (d : Nat → Nat) (M w : Nat → Int) (hWI : WI w) : CM l X yX8_totalDue wsX8_totalDue ({ frames := 4, cells := 0, slots := 0, locals := 88 }) [.ref (d 0)] ([oX8 (d 0) (M 0) (d 1) (d 2) (M 3) (d 3) (M 5) (d 4) (d 5) (d 6) (M 9) (d 7) (M 11) (M 12) (M 13) (M 14) (M 15) (M 16) (M 17) (M 18) (M 19) (M 20) (M 21) (M 22) (M 23) (M 24) (M 25) (M 26) (M 27) (M 28), arI X (d 1) 122 w]) (fun v9 w9 => ∃ N : Nat → Int, (sameP M N) ∧ (N 0 = 0) ∧ v9 = some (.int (iI (wDue w (w 0).toNat))) ∧ w9 = [oX8 (d 0) (N 0) (d 1) (d 2) (N 3) (d 3) (N 5) (d 4) (d 5) (d 6) (N 9) (d 7) (N 11) (N 12) (N 13) (N 14) (N 15) (N 16) (N 17) (N 18) (N 19) (N 20) (N 21) (N 22) (N 23) (N 24) (N 25) (N 26) (N 27) (N 28), arI X (d 1) 122 w]) 0 0 := by
  refine lo_enter (cc := cX8_totalDue) (maxL := 1) (ret := (some .int)) (lv := [(0, .ref (d 0))]) (by decide) rfl rfl (Nat.le_of_ble_eq_true rfl) ?_
  intro p9 e9 s9 m9 bl9 me9 c9 A9 ls hAe E hRt hLk hK hl hw
  have Ex := E.1
  have Eb := E.2.1
  have huRX8 : ∀ w ∈ u_ws RX8 TX8 29, w ∈ wsX8_totalDue := by decide +kernel
  have hf56 : (Cond.fieldLink RX8 56 "LoanScheduleModel" "thrown" "I").before _ s9 = true := E.2.2.2.2 _ (List.mem_of_getElem? (i := 1) rfl)
  refine lv_aload_n Ex Eb dX8_totalDue_0 rfl (lv_at hl 0 rfl) ?_
  refine lv_iconst (v := iI 0) Ex Eb dX8_totalDue_1 rfl ?_
  refine lo_put E hK hw huRX8 tyX8 tyX8_ok nmX8 0 hf56 rfl 0 rfl rfl (by decide) rfl rfl rfl rfl (Nat.le_of_ble_eq_true rfl) (ws' := [oX8 (d 0) 0 (d 1) (d 2) (M 3) (d 3) (M 5) (d 4) (d 5) (d 6) (M 9) (d 7) (M 11) (M 12) (M 13) (M 14) (M 15) (M 16) (M 17) (M 18) (M 19) (M 20) (M 21) (M 22) (M 23) (M 24) (M 25) (M 26) (M 27) (M 28), arI X (d 1) 122 w]) rfl dX8_totalDue_2 (fun H locs hw => ?_)
  refine lv_aload_n Ex Eb dX8_totalDue_5 rfl (lv_at hl 0 rfl) ?_
  refine lo_callV (q0 := 0) (rest := []) E hK hw (kX8_dueOfAll l X d (uI M 0 0) w (hWI)) (cwV 0 E.2.2.2.2 gX8_totalDue_X8_dueOfAll rfl rfl rfl (by decide +kernel) ⟨Nat.le_of_ble_eq_true rfl, Nat.le_of_ble_eq_true rfl⟩) rfl rfl [0, 1] rfl (by decide) hl.1 rfl rfl (Nat.le_of_ble_eq_true rfl) dX8_totalDue_6 ⟨Nat.le_of_ble_eq_true rfl, Nat.le_of_ble_eq_true rfl⟩ (fun v w1 H locs hq hw => ?_)
  obtain ⟨N1, q6_0, rfl, rfl⟩ := hq
  have hw : lo_Wd X ([oX8 (d 0) (N1 0) (d 1) (d 2) (N1 3) (d 3) (N1 5) (d 4) (d 5) (d 6) (N1 9) (d 7) (N1 11) (N1 12) (N1 13) (N1 14) (N1 15) (N1 16) (N1 17) (N1 18) (N1 19) (N1 20) (N1 21) (N1 22) (N1 23) (N1 24) (N1 25) (N1 26) (N1 27) (N1 28), arI X (d 1) 122 w]) A9 s9.heap H locs := hw
  refine W.eq (g2 := F0 m9 9 ls [.int (iI (wDue w (w 0).toNat))]) rfl ?_
  exact lo_iret E hRt hLk hK hAe hw dX8_totalDue_9 rfl ⟨N1, (sameP_w q6_0), ((sameW_0 q6_0).trans uI_s), rfl, rfl⟩
set_option maxHeartbeats 4000000 in
set_option maxRecDepth 100000 in
theorem kX8_inputLength (l : Launch) (X : KX) (d : Nat → Nat) (M : Nat → Int) : CM l X yX8_inputLength wsX8_inputLength ({ frames := 0, cells := 0, slots := 0, locals := 0 }) [.ref (d 0)] ([oX8 (d 0) (M 0) (d 1) (d 2) (M 3) (d 3) (M 5) (d 4) (d 5) (d 6) (M 9) (d 7) (M 11) (M 12) (M 13) (M 14) (M 15) (M 16) (M 17) (M 18) (M 19) (M 20) (M 21) (M 22) (M 23) (M 24) (M 25) (M 26) (M 27) (M 28)]) (fun v9 w9 => v9 = some (.int (iI (M 9))) ∧ w9 = [oX8 (d 0) 0 (d 1) (d 2) (M 3) (d 3) (M 5) (d 4) (d 5) (d 6) (M 9) (d 7) (M 11) (M 12) (M 13) (M 14) (M 15) (M 16) (M 17) (M 18) (M 19) (M 20) (M 21) (M 22) (M 23) (M 24) (M 25) (M 26) (M 27) (M 28)]) 0 0 := by
  refine lo_enter (cc := cX8_inputLength) (maxL := 1) (ret := (some .int)) (lv := [(0, .ref (d 0))]) (by decide) rfl rfl (Nat.le_of_ble_eq_true rfl) ?_
  intro p9 e9 s9 m9 bl9 me9 c9 A9 ls hAe E hRt hLk hK hl hw
  have Ex := E.1
  have Eb := E.2.1
  have huRX8 : ∀ w ∈ u_ws RX8 TX8 29, w ∈ wsX8_inputLength := by decide +kernel
  have hf56 : (Cond.fieldLink RX8 56 "LoanScheduleModel" "thrown" "I").before _ s9 = true := E.2.2.2.2 _ (List.mem_of_getElem? (i := 1) rfl)
  have hf196 : (Cond.fieldLink RX8 196 "LoanScheduleModel" "typed" "I").before _ s9 = true := E.2.2.2.2 _ (List.mem_of_getElem? (i := 2) rfl)
  refine lv_aload_n Ex Eb dX8_inputLength_0 rfl (lv_at hl 0 rfl) ?_
  refine lv_iconst (v := iI 0) Ex Eb dX8_inputLength_1 rfl ?_
  refine lo_put E hK hw huRX8 tyX8 tyX8_ok nmX8 0 hf56 rfl 0 rfl rfl (by decide) rfl rfl rfl rfl (Nat.le_of_ble_eq_true rfl) (ws' := [oX8 (d 0) 0 (d 1) (d 2) (M 3) (d 3) (M 5) (d 4) (d 5) (d 6) (M 9) (d 7) (M 11) (M 12) (M 13) (M 14) (M 15) (M 16) (M 17) (M 18) (M 19) (M 20) (M 21) (M 22) (M 23) (M 24) (M 25) (M 26) (M 27) (M 28)]) rfl dX8_inputLength_2 (fun H locs hw => ?_)
  refine lv_aload_n Ex Eb dX8_inputLength_5 rfl (lv_at hl 0 rfl) ?_
  refine lo_get E hK hw huRX8 9 hf196 rfl 0 rfl rfl (by decide) (v := .int (iI (M 9))) rfl dX8_inputLength_6 ?_
  exact lo_iret E hRt hLk hK hAe hw dX8_inputLength_9 rfl ⟨rfl, rfl⟩
set_option maxHeartbeats 4000000 in
set_option maxRecDepth 100000 in
theorem kX8_scriptErrorKind (l : Launch) (X : KX) (d : Nat → Nat) (M : Nat → Int) : CM l X yX8_scriptErrorKind wsX8_scriptErrorKind ({ frames := 0, cells := 0, slots := 0, locals := 0 }) [.ref (d 0)] ([oX8 (d 0) (M 0) (d 1) (d 2) (M 3) (d 3) (M 5) (d 4) (d 5) (d 6) (M 9) (d 7) (M 11) (M 12) (M 13) (M 14) (M 15) (M 16) (M 17) (M 18) (M 19) (M 20) (M 21) (M 22) (M 23) (M 24) (M 25) (M 26) (M 27) (M 28)]) (fun v9 w9 => v9 = some (.int (iI (M 26))) ∧ w9 = [oX8 (d 0) 0 (d 1) (d 2) (M 3) (d 3) (M 5) (d 4) (d 5) (d 6) (M 9) (d 7) (M 11) (M 12) (M 13) (M 14) (M 15) (M 16) (M 17) (M 18) (M 19) (M 20) (M 21) (M 22) (M 23) (M 24) (M 25) (M 26) (M 27) (M 28)]) 0 0 := by
  refine lo_enter (cc := cX8_scriptErrorKind) (maxL := 1) (ret := (some .int)) (lv := [(0, .ref (d 0))]) (by decide) rfl rfl (Nat.le_of_ble_eq_true rfl) ?_
  intro p9 e9 s9 m9 bl9 me9 c9 A9 ls hAe E hRt hLk hK hl hw
  have Ex := E.1
  have Eb := E.2.1
  have huRX8 : ∀ w ∈ u_ws RX8 TX8 29, w ∈ wsX8_scriptErrorKind := by decide +kernel
  have hf56 : (Cond.fieldLink RX8 56 "LoanScheduleModel" "thrown" "I").before _ s9 = true := E.2.2.2.2 _ (List.mem_of_getElem? (i := 1) rfl)
  have hf270 : (Cond.fieldLink RX8 270 "LoanScheduleModel" "scriptKind" "I").before _ s9 = true := E.2.2.2.2 _ (List.mem_of_getElem? (i := 2) rfl)
  refine lv_aload_n Ex Eb dX8_scriptErrorKind_0 rfl (lv_at hl 0 rfl) ?_
  refine lv_iconst (v := iI 0) Ex Eb dX8_scriptErrorKind_1 rfl ?_
  refine lo_put E hK hw huRX8 tyX8 tyX8_ok nmX8 0 hf56 rfl 0 rfl rfl (by decide) rfl rfl rfl rfl (Nat.le_of_ble_eq_true rfl) (ws' := [oX8 (d 0) 0 (d 1) (d 2) (M 3) (d 3) (M 5) (d 4) (d 5) (d 6) (M 9) (d 7) (M 11) (M 12) (M 13) (M 14) (M 15) (M 16) (M 17) (M 18) (M 19) (M 20) (M 21) (M 22) (M 23) (M 24) (M 25) (M 26) (M 27) (M 28)]) rfl dX8_scriptErrorKind_2 (fun H locs hw => ?_)
  refine lv_aload_n Ex Eb dX8_scriptErrorKind_5 rfl (lv_at hl 0 rfl) ?_
  refine lo_get E hK hw huRX8 26 hf270 rfl 0 rfl rfl (by decide) (v := .int (iI (M 26))) rfl dX8_scriptErrorKind_6 ?_
  exact lo_iret E hRt hLk hK hAe hw dX8_scriptErrorKind_9 rfl ⟨rfl, rfl⟩
set_option maxHeartbeats 4000000 in
set_option maxRecDepth 100000 in
theorem kX8_scriptErrorOffset (l : Launch) (X : KX) (d : Nat → Nat) (M : Nat → Int) : CM l X yX8_scriptErrorOffset wsX8_scriptErrorOffset ({ frames := 0, cells := 0, slots := 0, locals := 0 }) [.ref (d 0)] ([oX8 (d 0) (M 0) (d 1) (d 2) (M 3) (d 3) (M 5) (d 4) (d 5) (d 6) (M 9) (d 7) (M 11) (M 12) (M 13) (M 14) (M 15) (M 16) (M 17) (M 18) (M 19) (M 20) (M 21) (M 22) (M 23) (M 24) (M 25) (M 26) (M 27) (M 28)]) (fun v9 w9 => v9 = some (.int (iI (M 27))) ∧ w9 = [oX8 (d 0) 0 (d 1) (d 2) (M 3) (d 3) (M 5) (d 4) (d 5) (d 6) (M 9) (d 7) (M 11) (M 12) (M 13) (M 14) (M 15) (M 16) (M 17) (M 18) (M 19) (M 20) (M 21) (M 22) (M 23) (M 24) (M 25) (M 26) (M 27) (M 28)]) 0 0 := by
  refine lo_enter (cc := cX8_scriptErrorOffset) (maxL := 1) (ret := (some .int)) (lv := [(0, .ref (d 0))]) (by decide) rfl rfl (Nat.le_of_ble_eq_true rfl) ?_
  intro p9 e9 s9 m9 bl9 me9 c9 A9 ls hAe E hRt hLk hK hl hw
  have Ex := E.1
  have Eb := E.2.1
  have huRX8 : ∀ w ∈ u_ws RX8 TX8 29, w ∈ wsX8_scriptErrorOffset := by decide +kernel
  have hf56 : (Cond.fieldLink RX8 56 "LoanScheduleModel" "thrown" "I").before _ s9 = true := E.2.2.2.2 _ (List.mem_of_getElem? (i := 1) rfl)
  have hf34 : (Cond.fieldLink RX8 34 "LoanScheduleModel" "scriptOffset" "I").before _ s9 = true := E.2.2.2.2 _ (List.mem_of_getElem? (i := 2) rfl)
  refine lv_aload_n Ex Eb dX8_scriptErrorOffset_0 rfl (lv_at hl 0 rfl) ?_
  refine lv_iconst (v := iI 0) Ex Eb dX8_scriptErrorOffset_1 rfl ?_
  refine lo_put E hK hw huRX8 tyX8 tyX8_ok nmX8 0 hf56 rfl 0 rfl rfl (by decide) rfl rfl rfl rfl (Nat.le_of_ble_eq_true rfl) (ws' := [oX8 (d 0) 0 (d 1) (d 2) (M 3) (d 3) (M 5) (d 4) (d 5) (d 6) (M 9) (d 7) (M 11) (M 12) (M 13) (M 14) (M 15) (M 16) (M 17) (M 18) (M 19) (M 20) (M 21) (M 22) (M 23) (M 24) (M 25) (M 26) (M 27) (M 28)]) rfl dX8_scriptErrorOffset_2 (fun H locs hw => ?_)
  refine lv_aload_n Ex Eb dX8_scriptErrorOffset_5 rfl (lv_at hl 0 rfl) ?_
  refine lo_get E hK hw huRX8 27 hf34 rfl 0 rfl rfl (by decide) (v := .int (iI (M 27))) rfl dX8_scriptErrorOffset_6 ?_
  exact lo_iret E hRt hLk hK hAe hw dX8_scriptErrorOffset_9 rfl ⟨rfl, rfl⟩
set_option maxHeartbeats 4000000 in
set_option maxRecDepth 100000 in
theorem kX8_undoCount (l : Launch) (X : KX) (d : Nat → Nat) (M : Nat → Int) : CM l X yX8_undoCount wsX8_undoCount ({ frames := 0, cells := 0, slots := 0, locals := 0 }) [.ref (d 0)] ([oX8 (d 0) (M 0) (d 1) (d 2) (M 3) (d 3) (M 5) (d 4) (d 5) (d 6) (M 9) (d 7) (M 11) (M 12) (M 13) (M 14) (M 15) (M 16) (M 17) (M 18) (M 19) (M 20) (M 21) (M 22) (M 23) (M 24) (M 25) (M 26) (M 27) (M 28)]) (fun v9 w9 => v9 = some (.int (iI (M 3))) ∧ w9 = [oX8 (d 0) 0 (d 1) (d 2) (M 3) (d 3) (M 5) (d 4) (d 5) (d 6) (M 9) (d 7) (M 11) (M 12) (M 13) (M 14) (M 15) (M 16) (M 17) (M 18) (M 19) (M 20) (M 21) (M 22) (M 23) (M 24) (M 25) (M 26) (M 27) (M 28)]) 0 0 := by
  refine lo_enter (cc := cX8_undoCount) (maxL := 1) (ret := (some .int)) (lv := [(0, .ref (d 0))]) (by decide) rfl rfl (Nat.le_of_ble_eq_true rfl) ?_
  intro p9 e9 s9 m9 bl9 me9 c9 A9 ls hAe E hRt hLk hK hl hw
  have Ex := E.1
  have Eb := E.2.1
  have huRX8 : ∀ w ∈ u_ws RX8 TX8 29, w ∈ wsX8_undoCount := by decide +kernel
  have hf56 : (Cond.fieldLink RX8 56 "LoanScheduleModel" "thrown" "I").before _ s9 = true := E.2.2.2.2 _ (List.mem_of_getElem? (i := 1) rfl)
  have hf59 : (Cond.fieldLink RX8 59 "LoanScheduleModel" "pastCount" "I").before _ s9 = true := E.2.2.2.2 _ (List.mem_of_getElem? (i := 2) rfl)
  refine lv_aload_n Ex Eb dX8_undoCount_0 rfl (lv_at hl 0 rfl) ?_
  refine lv_iconst (v := iI 0) Ex Eb dX8_undoCount_1 rfl ?_
  refine lo_put E hK hw huRX8 tyX8 tyX8_ok nmX8 0 hf56 rfl 0 rfl rfl (by decide) rfl rfl rfl rfl (Nat.le_of_ble_eq_true rfl) (ws' := [oX8 (d 0) 0 (d 1) (d 2) (M 3) (d 3) (M 5) (d 4) (d 5) (d 6) (M 9) (d 7) (M 11) (M 12) (M 13) (M 14) (M 15) (M 16) (M 17) (M 18) (M 19) (M 20) (M 21) (M 22) (M 23) (M 24) (M 25) (M 26) (M 27) (M 28)]) rfl dX8_undoCount_2 (fun H locs hw => ?_)
  refine lv_aload_n Ex Eb dX8_undoCount_5 rfl (lv_at hl 0 rfl) ?_
  refine lo_get E hK hw huRX8 3 hf59 rfl 0 rfl rfl (by decide) (v := .int (iI (M 3))) rfl dX8_undoCount_6 ?_
  exact lo_iret E hRt hLk hK hAe hw dX8_undoCount_9 rfl ⟨rfl, rfl⟩
set_option maxHeartbeats 4000000 in
set_option maxRecDepth 100000 in
theorem kX8_thrown (l : Launch) (X : KX) (d : Nat → Nat) (M : Nat → Int) : CM l X yX8_thrown wsX8_thrown ({ frames := 0, cells := 0, slots := 0, locals := 0 }) [.ref (d 0)] ([oX8 (d 0) (M 0) (d 1) (d 2) (M 3) (d 3) (M 5) (d 4) (d 5) (d 6) (M 9) (d 7) (M 11) (M 12) (M 13) (M 14) (M 15) (M 16) (M 17) (M 18) (M 19) (M 20) (M 21) (M 22) (M 23) (M 24) (M 25) (M 26) (M 27) (M 28)]) (fun v9 w9 => v9 = some (.int (iI (M 0))) ∧ w9 = [oX8 (d 0) (M 0) (d 1) (d 2) (M 3) (d 3) (M 5) (d 4) (d 5) (d 6) (M 9) (d 7) (M 11) (M 12) (M 13) (M 14) (M 15) (M 16) (M 17) (M 18) (M 19) (M 20) (M 21) (M 22) (M 23) (M 24) (M 25) (M 26) (M 27) (M 28)]) 0 0 := by
  refine lo_enter (cc := cX8_thrown) (maxL := 1) (ret := (some .int)) (lv := [(0, .ref (d 0))]) (by decide) rfl rfl (Nat.le_of_ble_eq_true rfl) ?_
  intro p9 e9 s9 m9 bl9 me9 c9 A9 ls hAe E hRt hLk hK hl hw
  have Ex := E.1
  have Eb := E.2.1
  have huRX8 : ∀ w ∈ u_ws RX8 TX8 29, w ∈ wsX8_thrown := by decide +kernel
  have hf56 : (Cond.fieldLink RX8 56 "LoanScheduleModel" "thrown" "I").before _ s9 = true := E.2.2.2.2 _ (List.mem_of_getElem? (i := 1) rfl)
  refine lv_aload_n Ex Eb dX8_thrown_0 rfl (lv_at hl 0 rfl) ?_
  refine lo_get E hK hw huRX8 0 hf56 rfl 0 rfl rfl (by decide) (v := .int (iI (M 0))) rfl dX8_thrown_1 ?_
  exact lo_iret E hRt hLk hK hAe hw dX8_thrown_4 rfl ⟨rfl, rfl⟩
set_option maxHeartbeats 4000000 in
set_option maxRecDepth 100000 in
theorem kX8_entry (l : Launch) (X : KX) (d : Nat → Nat) (M w : Nat → Int) (b q : Int) (hWI : WI w) (hb9 : i32 b) (hq : 0 ≤ q ∧ q < 3) : CM l X yX8_entry wsX8_entry ({ frames := 0, cells := 0, slots := 0, locals := 0 }) [.ref (d 0), .int (iI b), .int (iI q)] ([oX8 (d 0) (M 0) (d 1) (d 2) (M 3) (d 3) (M 5) (d 4) (d 5) (d 6) (M 9) (d 7) (M 11) (M 12) (M 13) (M 14) (M 15) (M 16) (M 17) (M 18) (M 19) (M 20) (M 21) (M 22) (M 23) (M 24) (M 25) (M 26) (M 27) (M 28), arI X (d 1) 122 w]) (fun v9 w9 => ∃ r : Int, ((0 ≤ b ∧ b < w 1 ∧ r = w (2 + 3 * b + q).toNat) ∨ (¬ (0 ≤ b ∧ b < w 1) ∧ r = -1)) ∧ v9 = some (.int (iI r)) ∧ w9 = [oX8 (d 0) 0 (d 1) (d 2) (M 3) (d 3) (M 5) (d 4) (d 5) (d 6) (M 9) (d 7) (M 11) (M 12) (M 13) (M 14) (M 15) (M 16) (M 17) (M 18) (M 19) (M 20) (M 21) (M 22) (M 23) (M 24) (M 25) (M 26) (M 27) (M 28), arI X (d 1) 122 w]) 0 0 := by
  refine lo_enter (cc := cX8_entry) (maxL := 3) (ret := (some .int)) (lv := [(0, .ref (d 0)), (1, .int (iI b)), (2, .int (iI q))]) (by decide) rfl rfl (Nat.le_of_ble_eq_true rfl) ?_
  intro p9 e9 s9 m9 bl9 me9 c9 A9 ls hAe E hRt hLk hK hl hw
  have Ex := E.1
  have Eb := E.2.1
  have huRX8 : ∀ w ∈ u_ws RX8 TX8 29, w ∈ wsX8_entry := by decide +kernel
  have hf56 : (Cond.fieldLink RX8 56 "LoanScheduleModel" "thrown" "I").before _ s9 = true := E.2.2.2.2 _ (List.mem_of_getElem? (i := 1) rfl)
  have hf9 : (Cond.fieldLink RX8 9 "LoanScheduleModel" "w" "[I").before _ s9 = true := E.2.2.2.2 _ (List.mem_of_getElem? (i := 2) rfl)
  obtain ⟨⟨hn0, hn1⟩, ⟨hb0, hb1⟩, hL⟩ := id hWI
  refine lv_aload_n Ex Eb dX8_entry_0 rfl (lv_at hl 0 rfl) ?_
  refine lv_iconst (v := iI 0) Ex Eb dX8_entry_1 rfl ?_
  refine lo_put E hK hw huRX8 tyX8 tyX8_ok nmX8 0 hf56 rfl 0 rfl rfl (by decide) rfl rfl rfl rfl (Nat.le_of_ble_eq_true rfl) (ws' := [oX8 (d 0) 0 (d 1) (d 2) (M 3) (d 3) (M 5) (d 4) (d 5) (d 6) (M 9) (d 7) (M 11) (M 12) (M 13) (M 14) (M 15) (M 16) (M 17) (M 18) (M 19) (M 20) (M 21) (M 22) (M 23) (M 24) (M 25) (M 26) (M 27) (M 28), arI X (d 1) 122 w]) rfl dX8_entry_2 (fun H locs hw => ?_)
  refine lv_iload_n Ex Eb dX8_entry_5 rfl (lv_at hl 1 rfl) ?_
  refine lo_if_lt (tgt := 34) E dX8_entry_6 (by decide) (by omega) (fun c1 => ?_) (fun c1 => ?_)
  · skip
    refine lv_iconst (v := iI (-1)) Ex Eb dX8_entry_34 rfl ?_
    exact lo_iret E hRt hLk hK hAe hw dX8_entry_35 rfl ⟨-1, (by first | exact Or.inl ⟨by omega, by omega, rfl⟩ | exact Or.inr ⟨by omega, rfl⟩), rfl, rfl⟩
  · skip
    refine lv_iload_n Ex Eb dX8_entry_9 rfl (lv_at hl 1 rfl) ?_
    refine lv_aload_n Ex Eb dX8_entry_10 rfl (lv_at hl 0 rfl) ?_
    refine lo_get E hK hw huRX8 1 hf9 rfl 0 rfl rfl (by decide) (v := .ref (d 1)) rfl dX8_entry_11 ?_
    refine lv_iconst (v := iI 1) Ex Eb dX8_entry_14 rfl ?_
    refine lo_iald E hK hw 1 rfl (by omega) dX8_entry_15 ?_
    refine W.eq (g2 := F0 m9 16 ls [.int (iI (w 1)), .int (iI b)]) rfl ?_
    refine lo_icmp_ge (tgt := 34) E dX8_entry_16 (by decide) (by omega) (by omega) (fun c2 => ?_) (fun c2 => ?_)
    · skip
      refine lv_iconst (v := iI (-1)) Ex Eb dX8_entry_34 rfl ?_
      exact lo_iret E hRt hLk hK hAe hw dX8_entry_35 rfl ⟨-1, (by first | exact Or.inl ⟨by omega, by omega, rfl⟩ | exact Or.inr ⟨by omega, rfl⟩), rfl, rfl⟩
    · skip
      refine lv_aload_n Ex Eb dX8_entry_19 rfl (lv_at hl 0 rfl) ?_
      refine lo_get E hK hw huRX8 1 hf9 rfl 0 rfl rfl (by decide) (v := .ref (d 1)) rfl dX8_entry_20 ?_
      refine lv_iconst (v := iI 2) Ex Eb dX8_entry_23 rfl ?_
      refine lv_iconst (v := iI 3) Ex Eb dX8_entry_24 rfl ?_
      refine lv_iload_n Ex Eb dX8_entry_25 rfl (lv_at hl 1 rfl) ?_
      refine lo_imul E dX8_entry_26 ?_
      refine lo_iadd E dX8_entry_27 ?_
      refine lv_iload_n Ex Eb dX8_entry_28 rfl (lv_at hl 2 rfl) ?_
      refine lo_iadd E dX8_entry_29 ?_
      refine lo_iald E hK hw 1 rfl (by omega) dX8_entry_30 ?_
      refine lv_goto (tgt := 35) Ex Eb dX8_entry_31 (by decide) ?_
      exact lo_iret E hRt hLk hK hAe hw dX8_entry_35 rfl ⟨w ((2 + (3 * b)) + q).toNat, (by first | exact Or.inl ⟨by omega, by omega, rfl⟩ | exact Or.inr ⟨by omega, rfl⟩), rfl, rfl⟩
set_option maxHeartbeats 4000000 in
set_option maxRecDepth 100000 in
theorem kX8_entryLoan (l : Launch) (X : KX) (d : Nat → Nat) (M w : Nat → Int) (b : Int) (hWI : WI w) (hb9 : i32 b) : CM l X yX8_entryLoan wsX8_entryLoan ({ frames := 1, cells := 0, slots := 0, locals := 22 }) [.ref (d 0), .int (iI b)] ([oX8 (d 0) (M 0) (d 1) (d 2) (M 3) (d 3) (M 5) (d 4) (d 5) (d 6) (M 9) (d 7) (M 11) (M 12) (M 13) (M 14) (M 15) (M 16) (M 17) (M 18) (M 19) (M 20) (M 21) (M 22) (M 23) (M 24) (M 25) (M 26) (M 27) (M 28), arI X (d 1) 122 w]) (fun v9 w9 => ∃ r : Int, ((0 ≤ b ∧ b < w 1 ∧ r = w (2 + 3 * b + 0).toNat) ∨ (¬ (0 ≤ b ∧ b < w 1) ∧ r = -1)) ∧ v9 = some (.int (iI r)) ∧ w9 = [oX8 (d 0) 0 (d 1) (d 2) (M 3) (d 3) (M 5) (d 4) (d 5) (d 6) (M 9) (d 7) (M 11) (M 12) (M 13) (M 14) (M 15) (M 16) (M 17) (M 18) (M 19) (M 20) (M 21) (M 22) (M 23) (M 24) (M 25) (M 26) (M 27) (M 28), arI X (d 1) 122 w]) 0 0 := by
  refine lo_enter (cc := cX8_entryLoan) (maxL := 2) (ret := (some .int)) (lv := [(0, .ref (d 0)), (1, .int (iI b))]) (by decide) rfl rfl (Nat.le_of_ble_eq_true rfl) ?_
  intro p9 e9 s9 m9 bl9 me9 c9 A9 ls hAe E hRt hLk hK hl hw
  have Ex := E.1
  have Eb := E.2.1
  refine lv_aload_n Ex Eb dX8_entryLoan_0 rfl (lv_at hl 0 rfl) ?_
  refine lv_iload_n Ex Eb dX8_entryLoan_1 rfl (lv_at hl 1 rfl) ?_
  refine lv_iconst (v := iI 0) Ex Eb dX8_entryLoan_2 rfl ?_
  refine lo_callV (q0 := 0) (rest := []) E hK hw (kX8_entry l X d M w b 0 (hWI) (by omega) (by omega)) (cwV 2 E.2.2.2.2 gX8_entryLoan_X8_entry rfl rfl rfl (by decide +kernel) ⟨Nat.le_of_ble_eq_true rfl, Nat.le_of_ble_eq_true rfl⟩) rfl rfl [0, 1] rfl (by decide) hl.1 rfl rfl (Nat.le_of_ble_eq_true rfl) dX8_entryLoan_3 ⟨Nat.le_of_ble_eq_true rfl, Nat.le_of_ble_eq_true rfl⟩ (fun v w1 H locs hq hw => ?_)
  obtain ⟨r1, q3_0, rfl, rfl⟩ := hq
  have hw : lo_Wd X ([oX8 (d 0) 0 (d 1) (d 2) (M 3) (d 3) (M 5) (d 4) (d 5) (d 6) (M 9) (d 7) (M 11) (M 12) (M 13) (M 14) (M 15) (M 16) (M 17) (M 18) (M 19) (M 20) (M 21) (M 22) (M 23) (M 24) (M 25) (M 26) (M 27) (M 28), arI X (d 1) 122 w]) A9 s9.heap H locs := hw
  refine W.eq (g2 := F0 m9 6 ls [.int (iI r1)]) rfl ?_
  exact lo_iret E hRt hLk hK hAe hw dX8_entryLoan_6 rfl ⟨r1, (q3_0), rfl, rfl⟩
set_option maxHeartbeats 4000000 in
set_option maxRecDepth 100000 in
theorem kX8_entryAmount (l : Launch) (X : KX) (d : Nat → Nat) (M w : Nat → Int) (b : Int) (hWI : WI w) (hb9 : i32 b) : CM l X yX8_entryAmount wsX8_entryAmount ({ frames := 1, cells := 0, slots := 0, locals := 22 }) [.ref (d 0), .int (iI b)] ([oX8 (d 0) (M 0) (d 1) (d 2) (M 3) (d 3) (M 5) (d 4) (d 5) (d 6) (M 9) (d 7) (M 11) (M 12) (M 13) (M 14) (M 15) (M 16) (M 17) (M 18) (M 19) (M 20) (M 21) (M 22) (M 23) (M 24) (M 25) (M 26) (M 27) (M 28), arI X (d 1) 122 w]) (fun v9 w9 => ∃ r : Int, ((0 ≤ b ∧ b < w 1 ∧ r = w (2 + 3 * b + 1).toNat) ∨ (¬ (0 ≤ b ∧ b < w 1) ∧ r = -1)) ∧ v9 = some (.int (iI r)) ∧ w9 = [oX8 (d 0) 0 (d 1) (d 2) (M 3) (d 3) (M 5) (d 4) (d 5) (d 6) (M 9) (d 7) (M 11) (M 12) (M 13) (M 14) (M 15) (M 16) (M 17) (M 18) (M 19) (M 20) (M 21) (M 22) (M 23) (M 24) (M 25) (M 26) (M 27) (M 28), arI X (d 1) 122 w]) 0 0 := by
  refine lo_enter (cc := cX8_entryAmount) (maxL := 2) (ret := (some .int)) (lv := [(0, .ref (d 0)), (1, .int (iI b))]) (by decide) rfl rfl (Nat.le_of_ble_eq_true rfl) ?_
  intro p9 e9 s9 m9 bl9 me9 c9 A9 ls hAe E hRt hLk hK hl hw
  have Ex := E.1
  have Eb := E.2.1
  refine lv_aload_n Ex Eb dX8_entryAmount_0 rfl (lv_at hl 0 rfl) ?_
  refine lv_iload_n Ex Eb dX8_entryAmount_1 rfl (lv_at hl 1 rfl) ?_
  refine lv_iconst (v := iI 1) Ex Eb dX8_entryAmount_2 rfl ?_
  refine lo_callV (q0 := 0) (rest := []) E hK hw (kX8_entry l X d M w b 1 (hWI) (by omega) (by omega)) (cwV 2 E.2.2.2.2 gX8_entryAmount_X8_entry rfl rfl rfl (by decide +kernel) ⟨Nat.le_of_ble_eq_true rfl, Nat.le_of_ble_eq_true rfl⟩) rfl rfl [0, 1] rfl (by decide) hl.1 rfl rfl (Nat.le_of_ble_eq_true rfl) dX8_entryAmount_3 ⟨Nat.le_of_ble_eq_true rfl, Nat.le_of_ble_eq_true rfl⟩ (fun v w1 H locs hq hw => ?_)
  obtain ⟨r1, q3_0, rfl, rfl⟩ := hq
  have hw : lo_Wd X ([oX8 (d 0) 0 (d 1) (d 2) (M 3) (d 3) (M 5) (d 4) (d 5) (d 6) (M 9) (d 7) (M 11) (M 12) (M 13) (M 14) (M 15) (M 16) (M 17) (M 18) (M 19) (M 20) (M 21) (M 22) (M 23) (M 24) (M 25) (M 26) (M 27) (M 28), arI X (d 1) 122 w]) A9 s9.heap H locs := hw
  refine W.eq (g2 := F0 m9 6 ls [.int (iI r1)]) rfl ?_
  exact lo_iret E hRt hLk hK hAe hw dX8_entryAmount_6 rfl ⟨r1, (q3_0), rfl, rfl⟩
set_option maxHeartbeats 4000000 in
set_option maxRecDepth 100000 in
theorem kX8_entryInterest (l : Launch) (X : KX) (d : Nat → Nat) (M w : Nat → Int) (b : Int) (hWI : WI w) (hb9 : i32 b) : CM l X yX8_entryInterest wsX8_entryInterest ({ frames := 1, cells := 0, slots := 0, locals := 22 }) [.ref (d 0), .int (iI b)] ([oX8 (d 0) (M 0) (d 1) (d 2) (M 3) (d 3) (M 5) (d 4) (d 5) (d 6) (M 9) (d 7) (M 11) (M 12) (M 13) (M 14) (M 15) (M 16) (M 17) (M 18) (M 19) (M 20) (M 21) (M 22) (M 23) (M 24) (M 25) (M 26) (M 27) (M 28), arI X (d 1) 122 w]) (fun v9 w9 => ∃ r : Int, ((0 ≤ b ∧ b < w 1 ∧ r = w (2 + 3 * b + 2).toNat) ∨ (¬ (0 ≤ b ∧ b < w 1) ∧ r = -1)) ∧ v9 = some (.int (iI r)) ∧ w9 = [oX8 (d 0) 0 (d 1) (d 2) (M 3) (d 3) (M 5) (d 4) (d 5) (d 6) (M 9) (d 7) (M 11) (M 12) (M 13) (M 14) (M 15) (M 16) (M 17) (M 18) (M 19) (M 20) (M 21) (M 22) (M 23) (M 24) (M 25) (M 26) (M 27) (M 28), arI X (d 1) 122 w]) 0 0 := by
  refine lo_enter (cc := cX8_entryInterest) (maxL := 2) (ret := (some .int)) (lv := [(0, .ref (d 0)), (1, .int (iI b))]) (by decide) rfl rfl (Nat.le_of_ble_eq_true rfl) ?_
  intro p9 e9 s9 m9 bl9 me9 c9 A9 ls hAe E hRt hLk hK hl hw
  have Ex := E.1
  have Eb := E.2.1
  refine lv_aload_n Ex Eb dX8_entryInterest_0 rfl (lv_at hl 0 rfl) ?_
  refine lv_iload_n Ex Eb dX8_entryInterest_1 rfl (lv_at hl 1 rfl) ?_
  refine lv_iconst (v := iI 2) Ex Eb dX8_entryInterest_2 rfl ?_
  refine lo_callV (q0 := 0) (rest := []) E hK hw (kX8_entry l X d M w b 2 (hWI) (by omega) (by omega)) (cwV 2 E.2.2.2.2 gX8_entryInterest_X8_entry rfl rfl rfl (by decide +kernel) ⟨Nat.le_of_ble_eq_true rfl, Nat.le_of_ble_eq_true rfl⟩) rfl rfl [0, 1] rfl (by decide) hl.1 rfl rfl (Nat.le_of_ble_eq_true rfl) dX8_entryInterest_3 ⟨Nat.le_of_ble_eq_true rfl, Nat.le_of_ble_eq_true rfl⟩ (fun v w1 H locs hq hw => ?_)
  obtain ⟨r1, q3_0, rfl, rfl⟩ := hq
  have hw : lo_Wd X ([oX8 (d 0) 0 (d 1) (d 2) (M 3) (d 3) (M 5) (d 4) (d 5) (d 6) (M 9) (d 7) (M 11) (M 12) (M 13) (M 14) (M 15) (M 16) (M 17) (M 18) (M 19) (M 20) (M 21) (M 22) (M 23) (M 24) (M 25) (M 26) (M 27) (M 28), arI X (d 1) 122 w]) A9 s9.heap H locs := hw
  refine W.eq (g2 := F0 m9 6 ls [.int (iI r1)]) rfl ?_
  exact lo_iret E hRt hLk hK hAe hw dX8_entryInterest_6 rfl ⟨r1, (q3_0), rfl, rfl⟩
