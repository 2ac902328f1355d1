set_option maxHeartbeats 4000000 in
set_option maxRecDepth 100000 in
theorem kX8_noPayment (l : Launch) (X : KX) (d : Nat → Nat) (M w : Nat → Int) (i n : Int) (hWI : WI w) (hi : i32 i) (hn : i32 n) : CM l X yX8_noPayment wsX8_noPayment ({ frames := 2, cells := 0, slots := 0, locals := 45 }) [.ref (d 0), .int (iI i), .int (iI n)] ([oX8 (d 0) (M 0) (d 1) (d 2) (M 3) (d 3) (M 5) (d 4) (d 5) (d 6) (M 9) (d 7) (M 11) (M 12) (M 13) (M 14) (M 15) (M 16) (M 17) (M 18) (M 19) (M 20) (M 21) (M 22) (M 23) (M 24) (M 25) (M 26) (M 27) (M 28), arI X (d 1) 122 w]) (fun v9 w9 => ∃ z : Int, ∃ t : Int, ((z = 0 ∧ t = 0 ∧ (0 ≤ i ∧ i < w 0) ∧ 1 ≤ n ∧ n ≤ 120) ∨ (z = 1 ∧ t = 1 ∧ ¬ (0 ≤ i ∧ i < w 0)) ∨ (z = 1 ∧ t = 2 ∧ (0 ≤ i ∧ i < w 0) ∧ ¬ (1 ≤ n ∧ n ≤ 120))) ∧ v9 = some (.int (iI z)) ∧ w9 = [oX8 (d 0) t (d 1) (d 2) (M 3) (d 3) (M 5) (d 4) (d 5) (d 6) (M 9) (d 7) (M 11) (M 12) (M 13) (M 14) (M 15) (M 16) (M 17) (M 18) (M 19) (M 20) (M 21) (M 22) (M 23) (M 24) (M 25) (M 26) (M 27) (M 28), arI X (d 1) 122 w]) 0 0 := by
  refine lo_enter (cc := cX8_noPayment) (maxL := 3) (ret := (some .boolean)) (lv := [(0, .ref (d 0)), (1, .int (iI i)), (2, .int (iI n))]) (by decide) rfl rfl (Nat.le_of_ble_eq_true rfl) ?_
  intro p9 e9 s9 m9 bl9 me9 c9 A9 ls hAe E hRt hLk hK hl hw
  have Ex := E.1
  have Eb := E.2.1
  have huRX8 : ∀ w ∈ u_ws RX8 TX8 29, w ∈ wsX8_noPayment := by decide +kernel
  have hf56 : (Cond.fieldLink RX8 56 "LoanScheduleModel" "thrown" "I").before _ s9 = true := E.2.2.2.2 _ (List.mem_of_getElem? (i := 1) rfl)
  obtain ⟨⟨hn0, hn1⟩, ⟨hb0, hb1⟩, hL⟩ := id hWI
  refine lv_aload_n Ex Eb dX8_noPayment_0 rfl (lv_at hl 0 rfl) ?_
  refine lv_iconst (v := iI 0) Ex Eb dX8_noPayment_1 rfl ?_
  refine lo_put E hK hw huRX8 tyX8 tyX8_ok nmX8 0 hf56 rfl 0 rfl rfl (by decide) rfl rfl rfl rfl (Nat.le_of_ble_eq_true rfl) (ws' := [oX8 (d 0) 0 (d 1) (d 2) (M 3) (d 3) (M 5) (d 4) (d 5) (d 6) (M 9) (d 7) (M 11) (M 12) (M 13) (M 14) (M 15) (M 16) (M 17) (M 18) (M 19) (M 20) (M 21) (M 22) (M 23) (M 24) (M 25) (M 26) (M 27) (M 28), arI X (d 1) 122 w]) rfl dX8_noPayment_2 (fun H locs hw => ?_)
  refine lv_aload_n Ex Eb dX8_noPayment_5 rfl (lv_at hl 0 rfl) ?_
  refine lv_iload_n Ex Eb dX8_noPayment_6 rfl (lv_at hl 1 rfl) ?_
  refine lo_callV (q0 := 0) (rest := []) E hK hw (kX8_noLoan l X d (uI M 0 0) w i (hWI) (by omega)) (cwV 1 E.2.2.2.2 gX8_noPayment_X8_noLoan rfl rfl rfl (by decide +kernel) ⟨Nat.le_of_ble_eq_true rfl, Nat.le_of_ble_eq_true rfl⟩) rfl rfl [0, 1] rfl (by decide) hl.1 rfl rfl (Nat.le_of_ble_eq_true rfl) dX8_noPayment_7 ⟨Nat.le_of_ble_eq_true rfl, Nat.le_of_ble_eq_true rfl⟩ (fun v w1 H locs hq hw => ?_)
  obtain ⟨z1, t2, q7_0, rfl, rfl⟩ := hq
  change (z1 = 0 ∧ t2 = 0 ∧ 0 ≤ i ∧ i < w 0) ∨ (z1 = 1 ∧ t2 = 1 ∧ ¬ (0 ≤ i ∧ i < w 0)) at q7_0
  have hw : lo_Wd X ([oX8 (d 0) t2 (d 1) (d 2) (M 3) (d 3) (M 5) (d 4) (d 5) (d 6) (M 9) (d 7) (M 11) (M 12) (M 13) (M 14) (M 15) (M 16) (M 17) (M 18) (M 19) (M 20) (M 21) (M 22) (M 23) (M 24) (M 25) (M 26) (M 27) (M 28), arI X (d 1) 122 w]) A9 s9.heap H locs := hw
  refine W.eq (g2 := F0 m9 10 ls [.int (iI z1)]) rfl ?_
  refine lo_if_ne (tgt := 25) E dX8_noPayment_10 (by decide) (by omega) (fun c3 => ?_) (fun c3 => ?_)
  · skip
    refine lv_iconst (v := iI 1) Ex Eb dX8_noPayment_25 rfl ?_
    refine lv_goto (tgt := 30) Ex Eb dX8_noPayment_26 (by decide) ?_
    exact lo_zret E hRt hLk hK hAe hw dX8_noPayment_30 rfl rfl ⟨1, t2, (by omega), rfl, rfl⟩
  · skip
    refine lv_aload_n Ex Eb dX8_noPayment_13 rfl (lv_at hl 0 rfl) ?_
    refine lv_iload_n Ex Eb dX8_noPayment_14 rfl (lv_at hl 2 rfl) ?_
    refine lv_iconst (v := iI 1) Ex Eb dX8_noPayment_15 rfl ?_
    refine lv_bipush (v := iI 120) Ex Eb dX8_noPayment_16 rfl ?_
    refine lv_iconst (v := iI 2) Ex Eb dX8_noPayment_18 rfl ?_
    refine lo_callV (q0 := 0) (rest := []) E hK hw (kX8_outside l X d (uI M 0 t2) n 1 120 2 (by omega) (by omega) (by omega)) (cwV 4 E.2.2.2.2 gX8_noPayment_X8_outside rfl rfl rfl (by decide +kernel) ⟨Nat.le_of_ble_eq_true rfl, Nat.le_of_ble_eq_true rfl⟩) rfl rfl [0] rfl (by decide) hl.1 rfl rfl (Nat.le_of_ble_eq_true rfl) dX8_noPayment_19 ⟨Nat.le_of_ble_eq_true rfl, Nat.le_of_ble_eq_true rfl⟩ (fun v w1 H locs hq hw => ?_)
    obtain ⟨z4, t5, q19_0, rfl, rfl⟩ := hq
    change (z4 = 0 ∧ t5 = t2 ∧ 1 ≤ n ∧ n ≤ 120) ∨ (z4 = 1 ∧ t5 = 2 ∧ ¬ (1 ≤ n ∧ n ≤ 120)) at q19_0
    have hw : lo_Wd X ([oX8 (d 0) t5 (d 1) (d 2) (M 3) (d 3) (M 5) (d 4) (d 5) (d 6) (M 9) (d 7) (M 11) (M 12) (M 13) (M 14) (M 15) (M 16) (M 17) (M 18) (M 19) (M 20) (M 21) (M 22) (M 23) (M 24) (M 25) (M 26) (M 27) (M 28), arI X (d 1) 122 w]) A9 s9.heap H locs := hw
    refine W.eq (g2 := F0 m9 22 ls [.int (iI z4)]) rfl ?_
    refine lo_if_eq (tgt := 29) E dX8_noPayment_22 (by decide) (by omega) (fun c6 => ?_) (fun c6 => ?_)
    · skip
      refine lv_iconst (v := iI 0) Ex Eb dX8_noPayment_29 rfl ?_
      exact lo_zret E hRt hLk hK hAe hw dX8_noPayment_30 rfl rfl ⟨0, t5, (by omega), rfl, rfl⟩
    · skip
      refine lv_iconst (v := iI 1) Ex Eb dX8_noPayment_25 rfl ?_
      refine lv_goto (tgt := 30) Ex Eb dX8_noPayment_26 (by decide) ?_
      exact lo_zret E hRt hLk hK hAe hw dX8_noPayment_30 rfl rfl ⟨1, t5, (by omega), rfl, rfl⟩
set_option maxHeartbeats 4000000 in
set_option maxRecDepth 100000 in
theorem kX8_badTerms (l : Launch) (X : KX) (d : Nat → Nat) (M : Nat → Int) (r n : Int) (hr : i32 r) (hn : i32 n) : CM l X yX8_badTerms wsX8_badTerms ({ frames := 1, cells := 0, slots := 0, locals := 24 }) [.ref (d 0), .int (iI r), .int (iI n)] ([oX8 (d 0) (M 0) (d 1) (d 2) (M 3) (d 3) (M 5) (d 4) (d 5) (d 6) (M 9) (d 7) (M 11) (M 12) (M 13) (M 14) (M 15) (M 16) (M 17) (M 18) (M 19) (M 20) (M 21) (M 22) (M 23) (M 24) (M 25) (M 26) (M 27) (M 28)]) (fun v9 w9 => ∃ z : Int, ∃ t : Int, ((z = 0 ∧ t = M 0 ∧ (0 ≤ r ∧ r ≤ 3000) ∧ 1 ≤ n ∧ n ≤ 120) ∨ (z = 1 ∧ t = 2 ∧ ¬ ((0 ≤ r ∧ r ≤ 3000) ∧ 1 ≤ n ∧ n ≤ 120))) ∧ v9 = some (.int (iI z)) ∧ w9 = [oX8 (d 0) t (d 1) (d 2) (M 3) (d 3) (M 5) (d 4) (d 5) (d 6) (M 9) (d 7) (M 11) (M 12) (M 13) (M 14) (M 15) (M 16) (M 17) (M 18) (M 19) (M 20) (M 21) (M 22) (M 23) (M 24) (M 25) (M 26) (M 27) (M 28)]) 0 0 := by
  refine lo_enter (cc := cX8_badTerms) (maxL := 3) (ret := (some .boolean)) (lv := [(0, .ref (d 0)), (1, .int (iI r)), (2, .int (iI n))]) (by decide) rfl rfl (Nat.le_of_ble_eq_true rfl) ?_
  intro p9 e9 s9 m9 bl9 me9 c9 A9 ls hAe E hRt hLk hK hl hw
  have Ex := E.1
  have Eb := E.2.1
  refine lv_aload_n Ex Eb dX8_badTerms_0 rfl (lv_at hl 0 rfl) ?_
  refine lv_iload_n Ex Eb dX8_badTerms_1 rfl (lv_at hl 1 rfl) ?_
  refine lv_iconst (v := iI 0) Ex Eb dX8_badTerms_2 rfl ?_
  refine lv_sipush (v := iI 3000) Ex Eb dX8_badTerms_3 rfl ?_
  refine lv_iconst (v := iI 2) Ex Eb dX8_badTerms_6 rfl ?_
  refine lo_callV (q0 := 0) (rest := []) E hK hw (kX8_outside l X d M r 0 3000 2 (by omega) (by omega) (by omega)) (cwV 4 E.2.2.2.2 gX8_badTerms_X8_outside rfl rfl rfl (by decide +kernel) ⟨Nat.le_of_ble_eq_true rfl, Nat.le_of_ble_eq_true rfl⟩) rfl rfl [0] rfl (by decide) hl.1 rfl rfl (Nat.le_of_ble_eq_true rfl) dX8_badTerms_7 ⟨Nat.le_of_ble_eq_true rfl, Nat.le_of_ble_eq_true rfl⟩ (fun v w1 H locs hq hw => ?_)
  obtain ⟨z1, t2, q7_0, rfl, rfl⟩ := hq
  have hw : lo_Wd X ([oX8 (d 0) t2 (d 1) (d 2) (M 3) (d 3) (M 5) (d 4) (d 5) (d 6) (M 9) (d 7) (M 11) (M 12) (M 13) (M 14) (M 15) (M 16) (M 17) (M 18) (M 19) (M 20) (M 21) (M 22) (M 23) (M 24) (M 25) (M 26) (M 27) (M 28)]) A9 s9.heap H locs := hw
  refine W.eq (g2 := F0 m9 10 ls [.int (iI z1)]) rfl ?_
  refine lo_if_ne (tgt := 25) E dX8_badTerms_10 (by decide) (by omega) (fun c3 => ?_) (fun c3 => ?_)
  · skip
    refine lv_iconst (v := iI 1) Ex Eb dX8_badTerms_25 rfl ?_
    refine lv_goto (tgt := 30) Ex Eb dX8_badTerms_26 (by decide) ?_
    exact lo_zret E hRt hLk hK hAe hw dX8_badTerms_30 rfl rfl ⟨1, t2, (by omega), rfl, rfl⟩
  · skip
    refine lv_aload_n Ex Eb dX8_badTerms_13 rfl (lv_at hl 0 rfl) ?_
    refine lv_iload_n Ex Eb dX8_badTerms_14 rfl (lv_at hl 2 rfl) ?_
    refine lv_iconst (v := iI 1) Ex Eb dX8_badTerms_15 rfl ?_
    refine lv_bipush (v := iI 120) Ex Eb dX8_badTerms_16 rfl ?_
    refine lv_iconst (v := iI 2) Ex Eb dX8_badTerms_18 rfl ?_
    refine lo_callV (q0 := 0) (rest := []) E hK hw (kX8_outside l X d (uI M 0 t2) n 1 120 2 (by omega) (by omega) (by omega)) (cwV 4 E.2.2.2.2 gX8_badTerms_X8_outside rfl rfl rfl (by decide +kernel) ⟨Nat.le_of_ble_eq_true rfl, Nat.le_of_ble_eq_true rfl⟩) rfl rfl [0] rfl (by decide) hl.1 rfl rfl (Nat.le_of_ble_eq_true rfl) dX8_badTerms_19 ⟨Nat.le_of_ble_eq_true rfl, Nat.le_of_ble_eq_true rfl⟩ (fun v w1 H locs hq hw => ?_)
    obtain ⟨z4, t5, q19_0, rfl, rfl⟩ := hq
    change (z4 = 0 ∧ t5 = t2 ∧ 1 ≤ n ∧ n ≤ 120) ∨ (z4 = 1 ∧ t5 = 2 ∧ ¬ (1 ≤ n ∧ n ≤ 120)) at q19_0
    have hw : lo_Wd X ([oX8 (d 0) t5 (d 1) (d 2) (M 3) (d 3) (M 5) (d 4) (d 5) (d 6) (M 9) (d 7) (M 11) (M 12) (M 13) (M 14) (M 15) (M 16) (M 17) (M 18) (M 19) (M 20) (M 21) (M 22) (M 23) (M 24) (M 25) (M 26) (M 27) (M 28)]) A9 s9.heap H locs := hw
    refine W.eq (g2 := F0 m9 22 ls [.int (iI z4)]) rfl ?_
    refine lo_if_eq (tgt := 29) E dX8_badTerms_22 (by decide) (by omega) (fun c6 => ?_) (fun c6 => ?_)
    · skip
      refine lv_iconst (v := iI 0) Ex Eb dX8_badTerms_29 rfl ?_
      exact lo_zret E hRt hLk hK hAe hw dX8_badTerms_30 rfl rfl ⟨0, t5, (by omega), rfl, rfl⟩
    · skip
      refine lv_iconst (v := iI 1) Ex Eb dX8_badTerms_25 rfl ?_
      refine lv_goto (tgt := 30) Ex Eb dX8_badTerms_26 (by decide) ?_
      exact lo_zret E hRt hLk hK hAe hw dX8_badTerms_30 rfl rfl ⟨1, t5, (by omega), rfl, rfl⟩
set_option maxHeartbeats 4000000 in
set_option maxRecDepth 100000 in
theorem kX8_nextTarget (l : Launch) (X : KX) (d : Nat → Nat) (M w : Nat → Int) (y : Int) (hWI : WI w) (hy : y = 0 ∨ y = 1) : CM l X yX8_nextTarget wsX8_nextTarget ({ frames := 3, cells := 0, slots := 0, locals := 65 }) [.ref (d 0), .int (iI y)] ([oX8 (d 0) (M 0) (d 1) (d 2) (M 3) (d 3) (M 5) (d 4) (d 5) (d 6) (M 9) (d 7) (M 11) (M 12) (M 13) (M 14) (M 15) (M 16) (M 17) (M 18) (M 19) (M 20) (M 21) (M 22) (M 23) (M 24) (M 25) (M 26) (M 27) (M 28), arI X (d 1) 122 w]) (fun v9 w9 => ∃ r : Int, ((y = 1 ∧ r = dst (LWf w) (w 0).toNat) ∨ (y = 0 ∧ r = sml (LWf w) (w 0).toNat)) ∧ v9 = some (.int (iI r)) ∧ w9 = [oX8 (d 0) (M 0) (d 1) (d 2) (M 3) (d 3) (M 5) (d 4) (d 5) (d 6) (M 9) (d 7) (M 11) (M 12) (M 13) (M 14) (M 15) (M 16) (M 17) (M 18) (M 19) (M 20) (M 21) (M 22) (M 23) (M 24) (M 25) (M 26) (M 27) (M 28), arI X (d 1) 122 w]) 0 0 := by
  refine lo_enter (cc := cX8_nextTarget) (maxL := 2) (ret := (some .int)) (lv := [(0, .ref (d 0)), (1, .int (iI y))]) (by decide) rfl rfl (Nat.le_of_ble_eq_true rfl) ?_
  intro p9 e9 s9 m9 bl9 me9 c9 A9 ls hAe E hRt hLk hK hl hw
  have Ex := E.1
  have Eb := E.2.1
  refine lv_iload_n Ex Eb dX8_nextTarget_0 rfl (lv_at hl 1 rfl) ?_
  refine lo_if_eq (tgt := 11) E dX8_nextTarget_1 (by decide) (by omega) (fun c1 => ?_) (fun c1 => ?_)
  · skip
    refine lv_aload_n Ex Eb dX8_nextTarget_11 rfl (lv_at hl 0 rfl) ?_
    refine lo_callV (q0 := 0) (rest := []) E hK hw (kX8_smallest l X d M w (by omega)) (cwV 0 E.2.2.2.2 gX8_nextTarget_X8_smallest rfl rfl rfl (by decide +kernel) ⟨Nat.le_of_ble_eq_true rfl, Nat.le_of_ble_eq_true rfl⟩) rfl rfl [0, 1] rfl (by decide) hl.1 rfl rfl (Nat.le_of_ble_eq_true rfl) dX8_nextTarget_12 ⟨Nat.le_of_ble_eq_true rfl, Nat.le_of_ble_eq_true rfl⟩ (fun v w1 H locs hq hw => ?_)
    obtain ⟨rfl, rfl⟩ := hq
    have hw : lo_Wd X ([oX8 (d 0) (M 0) (d 1) (d 2) (M 3) (d 3) (M 5) (d 4) (d 5) (d 6) (M 9) (d 7) (M 11) (M 12) (M 13) (M 14) (M 15) (M 16) (M 17) (M 18) (M 19) (M 20) (M 21) (M 22) (M 23) (M 24) (M 25) (M 26) (M 27) (M 28), arI X (d 1) 122 w]) A9 s9.heap H locs := hw
    refine W.eq (g2 := F0 m9 15 ls [.int (iI (sml (LWf w) (w 0).toNat))]) rfl ?_
    exact lo_iret E hRt hLk hK hAe hw dX8_nextTarget_15 rfl ⟨sml (LWf w) (w 0).toNat, (by omega), rfl, rfl⟩
  · skip
    refine lv_aload_n Ex Eb dX8_nextTarget_4 rfl (lv_at hl 0 rfl) ?_
    refine lo_callV (q0 := 0) (rest := []) E hK hw (kX8_dearest l X d M w (by omega)) (cwV 0 E.2.2.2.2 gX8_nextTarget_X8_dearest rfl rfl rfl (by decide +kernel) ⟨Nat.le_of_ble_eq_true rfl, Nat.le_of_ble_eq_true rfl⟩) rfl rfl [0, 1] rfl (by decide) hl.1 rfl rfl (Nat.le_of_ble_eq_true rfl) dX8_nextTarget_5 ⟨Nat.le_of_ble_eq_true rfl, Nat.le_of_ble_eq_true rfl⟩ (fun v w1 H locs hq hw => ?_)
    obtain ⟨rfl, rfl⟩ := hq
    have hw : lo_Wd X ([oX8 (d 0) (M 0) (d 1) (d 2) (M 3) (d 3) (M 5) (d 4) (d 5) (d 6) (M 9) (d 7) (M 11) (M 12) (M 13) (M 14) (M 15) (M 16) (M 17) (M 18) (M 19) (M 20) (M 21) (M 22) (M 23) (M 24) (M 25) (M 26) (M 27) (M 28), arI X (d 1) 122 w]) A9 s9.heap H locs := hw
    refine W.eq (g2 := F0 m9 8 ls [.int (iI (dst (LWf w) (w 0).toNat))]) rfl ?_
    refine lv_goto (tgt := 15) Ex Eb dX8_nextTarget_8 (by decide) ?_
    exact lo_iret E hRt hLk hK hAe hw dX8_nextTarget_15 rfl ⟨dst (LWf w) (w 0).toNat, (by omega), rfl, rfl⟩
set_option maxHeartbeats 4000000 in
set_option maxRecDepth 100000 in
theorem kX8_isOpen (l : Launch) (X : KX) (d : Nat → Nat) (M w : Nat → Int) (i : Int) (hWI : WI w) (hi : i32 i) : CM l X yX8_isOpen wsX8_isOpen ({ frames := 2, cells := 0, slots := 0, locals := 45 }) [.ref (d 0), .int (iI i)] ([oX8 (d 0) (M 0) (d 1) (d 2) (M 3) (d 3) (M 5) (d 4) (d 5) (d 6) (M 9) (d 7) (M 11) (M 12) (M 13) (M 14) (M 15) (M 16) (M 17) (M 18) (M 19) (M 20) (M 21) (M 22) (M 23) (M 24) (M 25) (M 26) (M 27) (M 28), arI X (d 1) 122 w]) (fun v9 w9 => ∃ z : Int, ∃ t : Int, ((z = 1 ∧ t = 0 ∧ (0 ≤ i ∧ i < w 0) ∧ 0 < wOf w i 1) ∨ (z = 0 ∧ t = 0 ∧ (0 ≤ i ∧ i < w 0) ∧ wOf w i 1 ≤ 0) ∨ (z = 0 ∧ t = 1 ∧ ¬ (0 ≤ i ∧ i < w 0))) ∧ v9 = some (.int (iI z)) ∧ w9 = [oX8 (d 0) t (d 1) (d 2) (M 3) (d 3) (M 5) (d 4) (d 5) (d 6) (M 9) (d 7) (M 11) (M 12) (M 13) (M 14) (M 15) (M 16) (M 17) (M 18) (M 19) (M 20) (M 21) (M 22) (M 23) (M 24) (M 25) (M 26) (M 27) (M 28), arI X (d 1) 122 w]) 0 0 := by
  refine lo_enter (cc := cX8_isOpen) (maxL := 2) (ret := (some .boolean)) (lv := [(0, .ref (d 0)), (1, .int (iI i))]) (by decide) rfl rfl (Nat.le_of_ble_eq_true rfl) ?_
  intro p9 e9 s9 m9 bl9 me9 c9 A9 ls hAe E hRt hLk hK hl hw
  have Ex := E.1
  have Eb := E.2.1
  have huRX8 : ∀ w ∈ u_ws RX8 TX8 29, w ∈ wsX8_isOpen := by decide +kernel
  have hf56 : (Cond.fieldLink RX8 56 "LoanScheduleModel" "thrown" "I").before _ s9 = true := E.2.2.2.2 _ (List.mem_of_getElem? (i := 1) rfl)
  obtain ⟨⟨hn0, hn1⟩, ⟨hb0, hb1⟩, hL⟩ := id hWI
  refine lv_aload_n Ex Eb dX8_isOpen_0 rfl (lv_at hl 0 rfl) ?_
  refine lv_iconst (v := iI 0) Ex Eb dX8_isOpen_1 rfl ?_
  refine lo_put E hK hw huRX8 tyX8 tyX8_ok nmX8 0 hf56 rfl 0 rfl rfl (by decide) rfl rfl rfl rfl (Nat.le_of_ble_eq_true rfl) (ws' := [oX8 (d 0) 0 (d 1) (d 2) (M 3) (d 3) (M 5) (d 4) (d 5) (d 6) (M 9) (d 7) (M 11) (M 12) (M 13) (M 14) (M 15) (M 16) (M 17) (M 18) (M 19) (M 20) (M 21) (M 22) (M 23) (M 24) (M 25) (M 26) (M 27) (M 28), arI X (d 1) 122 w]) rfl dX8_isOpen_2 (fun H locs hw => ?_)
  refine lv_aload_n Ex Eb dX8_isOpen_5 rfl (lv_at hl 0 rfl) ?_
  refine lv_iload_n Ex Eb dX8_isOpen_6 rfl (lv_at hl 1 rfl) ?_
  refine lo_callV (q0 := 0) (rest := []) E hK hw (kX8_noLoan l X d (uI M 0 0) w i (hWI) (by omega)) (cwV 1 E.2.2.2.2 gX8_isOpen_X8_noLoan rfl rfl rfl (by decide +kernel) ⟨Nat.le_of_ble_eq_true rfl, Nat.le_of_ble_eq_true rfl⟩) rfl rfl [0, 1] rfl (by decide) hl.1 rfl rfl (Nat.le_of_ble_eq_true rfl) dX8_isOpen_7 ⟨Nat.le_of_ble_eq_true rfl, Nat.le_of_ble_eq_true rfl⟩ (fun v w1 H locs hq hw => ?_)
  obtain ⟨z1, t2, q7_0, rfl, rfl⟩ := hq
  change (z1 = 0 ∧ t2 = 0 ∧ 0 ≤ i ∧ i < w 0) ∨ (z1 = 1 ∧ t2 = 1 ∧ ¬ (0 ≤ i ∧ i < w 0)) at q7_0
  have hw : lo_Wd X ([oX8 (d 0) t2 (d 1) (d 2) (M 3) (d 3) (M 5) (d 4) (d 5) (d 6) (M 9) (d 7) (M 11) (M 12) (M 13) (M 14) (M 15) (M 16) (M 17) (M 18) (M 19) (M 20) (M 21) (M 22) (M 23) (M 24) (M 25) (M 26) (M 27) (M 28), arI X (d 1) 122 w]) A9 s9.heap H locs := hw
  refine W.eq (g2 := F0 m9 10 ls [.int (iI z1)]) rfl ?_
  refine lo_if_ne (tgt := 25) E dX8_isOpen_10 (by decide) (by omega) (fun c3 => ?_) (fun c3 => ?_)
  · skip
    refine lv_iconst (v := iI 0) Ex Eb dX8_isOpen_25 rfl ?_
    exact lo_zret E hRt hLk hK hAe hw dX8_isOpen_26 rfl rfl ⟨0, t2, (by omega), rfl, rfl⟩
  · skip
    have hW1 := WI_1 hWI (i := i) (by omega) (by omega)
    refine lv_aload_n Ex Eb dX8_isOpen_13 rfl (lv_at hl 0 rfl) ?_
    refine lv_iload_n Ex Eb dX8_isOpen_14 rfl (lv_at hl 1 rfl) ?_
    refine lo_callV (q0 := 0) (rest := []) E hK hw (kX8_isRunning l X d (uI M 0 t2) w i (by omega) (by omega)) (cwV 1 E.2.2.2.2 gX8_isOpen_X8_isRunning rfl rfl rfl (by decide +kernel) ⟨Nat.le_of_ble_eq_true rfl, Nat.le_of_ble_eq_true rfl⟩) rfl rfl [0, 1] rfl (by decide) hl.1 rfl rfl (Nat.le_of_ble_eq_true rfl) dX8_isOpen_15 ⟨Nat.le_of_ble_eq_true rfl, Nat.le_of_ble_eq_true rfl⟩ (fun v w1 H locs hq hw => ?_)
    obtain ⟨r4, q15_0, rfl, rfl⟩ := hq
    have hw : lo_Wd X ([oX8 (d 0) t2 (d 1) (d 2) (M 3) (d 3) (M 5) (d 4) (d 5) (d 6) (M 9) (d 7) (M 11) (M 12) (M 13) (M 14) (M 15) (M 16) (M 17) (M 18) (M 19) (M 20) (M 21) (M 22) (M 23) (M 24) (M 25) (M 26) (M 27) (M 28), arI X (d 1) 122 w]) A9 s9.heap H locs := hw
    refine W.eq (g2 := F0 m9 18 ls [.int (iI r4)]) rfl ?_
    refine lo_if_eq (tgt := 25) E dX8_isOpen_18 (by decide) (by omega) (fun c5 => ?_) (fun c5 => ?_)
    · skip
      refine lv_iconst (v := iI 0) Ex Eb dX8_isOpen_25 rfl ?_
      exact lo_zret E hRt hLk hK hAe hw dX8_isOpen_26 rfl rfl ⟨0, t2, (by omega), rfl, rfl⟩
    · skip
      refine lv_iconst (v := iI 1) Ex Eb dX8_isOpen_21 rfl ?_
      refine lv_goto (tgt := 26) Ex Eb dX8_isOpen_22 (by decide) ?_
      exact lo_zret E hRt hLk hK hAe hw dX8_isOpen_26 rfl rfl ⟨1, t2, (by omega), rfl, rfl⟩
set_option maxHeartbeats 4000000 in
set_option maxRecDepth 100000 in
theorem kX8_interestAhead (l : Launch) (X : KX) (d : Nat → Nat) (M w : Nat → Int) (i : Int) (hWI : WI w) (hi : i32 i) : CM l X yX8_interestAhead wsX8_interestAhead ({ frames := 4, cells := 0, slots := 0, locals := 96 }) [.ref (d 0), .int (iI i)] ([oX8 (d 0) (M 0) (d 1) (d 2) (M 3) (d 3) (M 5) (d 4) (d 5) (d 6) (M 9) (d 7) (M 11) (M 12) (M 13) (M 14) (M 15) (M 16) (M 17) (M 18) (M 19) (M 20) (M 21) (M 22) (M 23) (M 24) (M 25) (M 26) (M 27) (M 28), arI X (d 1) 122 w]) (fun v9 w9 => ∃ N : Nat → Int, ∃ r : Int, (sameP M N) ∧ ((N 0 = 0 ∧ 0 ≤ i ∧ i < w 0 ∧ r = runL 120 (WL w i) 6 - WL w i 6) ∨ (N 0 = 1 ∧ ¬ (0 ≤ i ∧ i < w 0))) ∧ v9 = some (.int (iI r)) ∧ w9 = [oX8 (d 0) (N 0) (d 1) (d 2) (N 3) (d 3) (N 5) (d 4) (d 5) (d 6) (N 9) (d 7) (N 11) (N 12) (N 13) (N 14) (N 15) (N 16) (N 17) (N 18) (N 19) (N 20) (N 21) (N 22) (N 23) (N 24) (N 25) (N 26) (N 27) (N 28), arI X (d 1) 122 w]) 0 0 := by
  refine lo_enter (cc := cX8_interestAhead) (maxL := 2) (ret := (some .int)) (lv := [(0, .ref (d 0)), (1, .int (iI i))]) (by decide) rfl rfl (Nat.le_of_ble_eq_true rfl) ?_
  intro p9 e9 s9 m9 bl9 me9 c9 A9 ls hAe E hRt hLk hK hl hw
  have Ex := E.1
  have Eb := E.2.1
  obtain ⟨⟨hn0, hn1⟩, ⟨hb0, hb1⟩, hL⟩ := id hWI
  refine lv_aload_n Ex Eb dX8_interestAhead_0 rfl (lv_at hl 0 rfl) ?_
  refine lv_iload_n Ex Eb dX8_interestAhead_1 rfl (lv_at hl 1 rfl) ?_
  refine lo_callV (q0 := 0) (rest := []) E hK hw (kX8_noOpen l X d M w i (hWI) (by omega)) (cwV 1 E.2.2.2.2 gX8_interestAhead_X8_noOpen rfl rfl rfl (by decide +kernel) ⟨Nat.le_of_ble_eq_true rfl, Nat.le_of_ble_eq_true rfl⟩) rfl rfl [0, 1] rfl (by decide) hl.1 rfl rfl (Nat.le_of_ble_eq_true rfl) dX8_interestAhead_2 ⟨Nat.le_of_ble_eq_true rfl, Nat.le_of_ble_eq_true rfl⟩ (fun v w1 H locs hq hw => ?_)
  obtain ⟨z1, t2, q2_0, rfl, rfl⟩ := hq
  have hw : lo_Wd X ([oX8 (d 0) t2 (d 1) (d 2) (M 3) (d 3) (M 5) (d 4) (d 5) (d 6) (M 9) (d 7) (M 11) (M 12) (M 13) (M 14) (M 15) (M 16) (M 17) (M 18) (M 19) (M 20) (M 21) (M 22) (M 23) (M 24) (M 25) (M 26) (M 27) (M 28), arI X (d 1) 122 w]) A9 s9.heap H locs := hw
  refine W.eq (g2 := F0 m9 5 ls [.int (iI z1)]) rfl ?_
  refine lo_if_eq (tgt := 12) E dX8_interestAhead_5 (by decide) (by omega) (fun c3 => ?_) (fun c3 => ?_)
  · skip
    have hLi := hL i (by omega) (by omega)
    refine lv_aload_n Ex Eb dX8_interestAhead_12 rfl (lv_at hl 0 rfl) ?_
    refine lv_iload_n Ex Eb dX8_interestAhead_13 rfl (lv_at hl 1 rfl) ?_
    refine lo_callV (q0 := 0) (rest := []) E hK hw (kX8_costAhead l X d (uI M 0 t2) w i (by omega) (hLi)) (cwV 1 E.2.2.2.2 gX8_interestAhead_X8_costAhead rfl rfl rfl (by decide +kernel) ⟨Nat.le_of_ble_eq_true rfl, Nat.le_of_ble_eq_true rfl⟩) rfl rfl [0, 1] rfl (by decide) hl.1 rfl rfl (Nat.le_of_ble_eq_true rfl) dX8_interestAhead_14 ⟨Nat.le_of_ble_eq_true rfl, Nat.le_of_ble_eq_true rfl⟩ (fun v w1 H locs hq hw => ?_)
    obtain ⟨rfl, rfl⟩ := hq
    have hw : lo_Wd X ([oX8 (d 0) (ahM (uI M 0 t2) w i 0) (d 1) (d 2) (ahM (uI M 0 t2) w i 3) (d 3) (ahM (uI M 0 t2) w i 5) (d 4) (d 5) (d 6) (ahM (uI M 0 t2) w i 9) (d 7) (ahM (uI M 0 t2) w i 11) (ahM (uI M 0 t2) w i 12) (ahM (uI M 0 t2) w i 13) (ahM (uI M 0 t2) w i 14) (ahM (uI M 0 t2) w i 15) (ahM (uI M 0 t2) w i 16) (ahM (uI M 0 t2) w i 17) (ahM (uI M 0 t2) w i 18) (ahM (uI M 0 t2) w i 19) (ahM (uI M 0 t2) w i 20) (ahM (uI M 0 t2) w i 21) (ahM (uI M 0 t2) w i 22) (ahM (uI M 0 t2) w i 23) (ahM (uI M 0 t2) w i 24) (ahM (uI M 0 t2) w i 25) (ahM (uI M 0 t2) w i 26) (ahM (uI M 0 t2) w i 27) (ahM (uI M 0 t2) w i 28), arI X (d 1) 122 w]) A9 s9.heap H locs := hw
    refine W.eq (g2 := F0 m9 17 ls [.int (iI (ahM (uI M 0 t2) w i 17))]) rfl ?_
    exact lo_iret E hRt hLk hK hAe hw dX8_interestAhead_17 rfl ⟨ahM (uI M 0 t2) w i, ahM (uI M 0 t2) w i 17, (by first | exact sameP_t | exact sameP_w (ahM_same _ w i)), (by first | exact Or.inl ⟨(sameW_0 (ahM_same _ w i)).trans (uI_s.trans (by omega)), by omega, by omega, (ahM_120 hLi).2.2.1⟩ | (simp only [uI_s]; rcases (show (0 ≤ i ∧ i < w 0) ∨ ¬ (0 ≤ i ∧ i < w 0) by omega) with hc9 | hc9; (have hz : runL 120 (WL w i) 6 - WL w i 6 = 0 := cost_0 (show WL w i 1 ≤ 0 by (show wOf w i 1 ≤ 0); omega); omega); omega)), rfl, rfl⟩
  · skip
    refine lv_iconst (v := iI 0) Ex Eb dX8_interestAhead_8 rfl ?_
    refine lv_goto (tgt := 17) Ex Eb dX8_interestAhead_9 (by decide) ?_
    exact lo_iret E hRt hLk hK hAe hw dX8_interestAhead_17 rfl ⟨uI M 0 t2, 0, (by first | exact sameP_t | exact sameP_w (ahM_same _ w i)), (by first | exact Or.inl ⟨(sameW_0 (ahM_same _ w i)).trans (uI_s.trans (by omega)), by omega, by omega, (ahM_120 hLi).2.2.1⟩ | (simp only [uI_s]; rcases (show (0 ≤ i ∧ i < w 0) ∨ ¬ (0 ≤ i ∧ i < w 0) by omega) with hc9 | hc9; (have hz : runL 120 (WL w i) 6 - WL w i 6 = 0 := cost_0 (show WL w i 1 ≤ 0 by (show wOf w i 1 ≤ 0); omega); omega); omega)), rfl, rfl⟩
set_option maxHeartbeats 4000000 in
set_option maxRecDepth 100000 in
theorem kX8_lastDue (l : Launch) (X : KX) (d : Nat → Nat) (M w : Nat → Int) (i : Int) (hWI : WI w) (hi : i32 i) : CM l X yX8_lastDue wsX8_lastDue ({ frames := 3, cells := 0, slots := 0, locals := 74 }) [.ref (d 0), .int (iI i)] ([oX8 (d 0) (M 0) (d 1) (d 2) (M 3) (d 3) (M 5) (d 4) (d 5) (d 6) (M 9) (d 7) (M 11) (M 12) (M 13) (M 14) (M 15) (M 16) (M 17) (M 18) (M 19) (M 20) (M 21) (M 22) (M 23) (M 24) (M 25) (M 26) (M 27) (M 28), arI X (d 1) 122 w]) (fun v9 w9 => ∃ N : Nat → Int, ∃ r : Int, (sameP M N) ∧ ((N 0 = 0 ∧ 0 ≤ i ∧ i < w 0 ∧ r = lastL 120 (WL w i) 0) ∨ (N 0 = 1 ∧ ¬ (0 ≤ i ∧ i < w 0))) ∧ v9 = some (.int (iI r)) ∧ w9 = [oX8 (d 0) (N 0) (d 1) (d 2) (N 3) (d 3) (N 5) (d 4) (d 5) (d 6) (N 9) (d 7) (N 11) (N 12) (N 13) (N 14) (N 15) (N 16) (N 17) (N 18) (N 19) (N 20) (N 21) (N 22) (N 23) (N 24) (N 25) (N 26) (N 27) (N 28), arI X (d 1) 122 w]) 0 0 := by
  refine lo_enter (cc := cX8_lastDue) (maxL := 2) (ret := (some .int)) (lv := [(0, .ref (d 0)), (1, .int (iI i))]) (by decide) rfl rfl (Nat.le_of_ble_eq_true rfl) ?_
  intro p9 e9 s9 m9 bl9 me9 c9 A9 ls hAe E hRt hLk hK hl hw
  have Ex := E.1
  have Eb := E.2.1
  obtain ⟨⟨hn0, hn1⟩, ⟨hb0, hb1⟩, hL⟩ := id hWI
  refine lv_aload_n Ex Eb dX8_lastDue_0 rfl (lv_at hl 0 rfl) ?_
  refine lv_iload_n Ex Eb dX8_lastDue_1 rfl (lv_at hl 1 rfl) ?_
  refine lo_callV (q0 := 0) (rest := []) E hK hw (kX8_noOpen l X d M w i (hWI) (by omega)) (cwV 1 E.2.2.2.2 gX8_lastDue_X8_noOpen rfl rfl rfl (by decide +kernel) ⟨Nat.le_of_ble_eq_true rfl, Nat.le_of_ble_eq_true rfl⟩) rfl rfl [0, 1] rfl (by decide) hl.1 rfl rfl (Nat.le_of_ble_eq_true rfl) dX8_lastDue_2 ⟨Nat.le_of_ble_eq_true rfl, Nat.le_of_ble_eq_true rfl⟩ (fun v w1 H locs hq hw => ?_)
  obtain ⟨z1, t2, q2_0, rfl, rfl⟩ := hq
  have hw : lo_Wd X ([oX8 (d 0) t2 (d 1) (d 2) (M 3) (d 3) (M 5) (d 4) (d 5) (d 6) (M 9) (d 7) (M 11) (M 12) (M 13) (M 14) (M 15) (M 16) (M 17) (M 18) (M 19) (M 20) (M 21) (M 22) (M 23) (M 24) (M 25) (M 26) (M 27) (M 28), arI X (d 1) 122 w]) A9 s9.heap H locs := hw
  refine W.eq (g2 := F0 m9 5 ls [.int (iI z1)]) rfl ?_
  refine lo_if_eq (tgt := 12) E dX8_lastDue_5 (by decide) (by omega) (fun c3 => ?_) (fun c3 => ?_)
  · skip
    have hLi := hL i (by omega) (by omega)
    refine lv_aload_n Ex Eb dX8_lastDue_12 rfl (lv_at hl 0 rfl) ?_
    refine lv_iload_n Ex Eb dX8_lastDue_13 rfl (lv_at hl 1 rfl) ?_
    refine lo_callV (q0 := 0) (rest := []) E hK hw (kX8_ahead l X d (uI M 0 t2) w i (by omega) (hLi)) (cwV 1 E.2.2.2.2 gX8_lastDue_X8_ahead rfl rfl rfl (by decide +kernel) ⟨Nat.le_of_ble_eq_true rfl, Nat.le_of_ble_eq_true rfl⟩) rfl rfl [0, 1] rfl (by decide) hl.1 rfl rfl (Nat.le_of_ble_eq_true rfl) dX8_lastDue_14 ⟨Nat.le_of_ble_eq_true rfl, Nat.le_of_ble_eq_true rfl⟩ (fun v w1 H locs hq hw => ?_)
    obtain ⟨q14_0, rfl, rfl⟩ := hq
    have hw : lo_Wd X ([oX8 (d 0) (ahM (uI M 0 t2) w i 0) (d 1) (d 2) (ahM (uI M 0 t2) w i 3) (d 3) (ahM (uI M 0 t2) w i 5) (d 4) (d 5) (d 6) (ahM (uI M 0 t2) w i 9) (d 7) (ahM (uI M 0 t2) w i 11) (ahM (uI M 0 t2) w i 12) (ahM (uI M 0 t2) w i 13) (ahM (uI M 0 t2) w i 14) (ahM (uI M 0 t2) w i 15) (ahM (uI M 0 t2) w i 16) (ahM (uI M 0 t2) w i 17) (ahM (uI M 0 t2) w i 18) (ahM (uI M 0 t2) w i 19) (ahM (uI M 0 t2) w i 20) (ahM (uI M 0 t2) w i 21) (ahM (uI M 0 t2) w i 22) (ahM (uI M 0 t2) w i 23) (ahM (uI M 0 t2) w i 24) (ahM (uI M 0 t2) w i 25) (ahM (uI M 0 t2) w i 26) (ahM (uI M 0 t2) w i 27) (ahM (uI M 0 t2) w i 28), arI X (d 1) 122 w]) A9 s9.heap H locs := hw
    refine W.eq (g2 := F0 m9 17 ls [.int (iI (ahM (uI M 0 t2) w i 15))]) rfl ?_
    exact lo_iret E hRt hLk hK hAe hw dX8_lastDue_17 rfl ⟨ahM (uI M 0 t2) w i, ahM (uI M 0 t2) w i 15, (by first | exact sameP_t | exact sameP_w (ahM_same _ w i)), (by first | exact Or.inl ⟨(sameW_0 (ahM_same _ w i)).trans (uI_s.trans (by omega)), by omega, by omega, (ahM_120 hLi).2.1⟩ | (simp only [uI_s]; rcases (show (0 ≤ i ∧ i < w 0) ∨ ¬ (0 ≤ i ∧ i < w 0) by omega) with hc9 | hc9; (have hz : lastL 120 (WL w i) 0 = 0 := lastL_e (show WL w i 1 ≤ 0 by (show wOf w i 1 ≤ 0); omega); omega); omega)), rfl, rfl⟩
  · skip
    refine lv_iconst (v := iI 0) Ex Eb dX8_lastDue_8 rfl ?_
    refine lv_goto (tgt := 17) Ex Eb dX8_lastDue_9 (by decide) ?_
    exact lo_iret E hRt hLk hK hAe hw dX8_lastDue_17 rfl ⟨uI M 0 t2, 0, (by first | exact sameP_t | exact sameP_w (ahM_same _ w i)), (by first | exact Or.inl ⟨(sameW_0 (ahM_same _ w i)).trans (uI_s.trans (by omega)), by omega, by omega, (ahM_120 hLi).2.1⟩ | (simp only [uI_s]; rcases (show (0 ≤ i ∧ i < w 0) ∨ ¬ (0 ≤ i ∧ i < w 0) by omega) with hc9 | hc9; (have hz : lastL 120 (WL w i) 0 = 0 := lastL_e (show WL w i 1 ≤ 0 by (show wOf w i 1 ≤ 0); omega); omega); omega)), rfl, rfl⟩
