set_option maxHeartbeats 4000000 in
set_option maxRecDepth 100000 in
/-- whether it is open -/
theorem kX2_isRunning (l : Launch) (X : KX) (h : Nat) (L : Nat → Int) (hb : i32 (L 1)) : CM l X yX2_isRunning wsX2_isRunning ({ frames := 0, cells := 0, slots := 0, locals := 0 }) [.ref h] ([oX2 h (L 0) (L 1) (L 2) (L 3) (L 4) (L 5) (L 6) (L 7) (L 8) (L 9)]) (fun v9 w9 => ∃ r : Int, ((r = 1 ∧ 0 < (L 1)) ∨ (r = 0 ∧ (L 1) ≤ 0)) ∧ v9 = some (.int (iI r)) ∧ w9 = [oX2 h (L 0) (L 1) (L 2) (L 3) (L 4) (L 5) (L 6) (L 7) (L 8) (L 9)]) 0 0 := by
  refine lo_enter (cc := cX2_isRunning) (maxL := 1) (ret := (some .boolean)) (lv := [(0, .ref h)]) (by decide) rfl rfl (Nat.le_of_ble_eq_true rfl) ?_
  intro p9 e9 s9 m9 bl9 me9 c9 A9 ls hAe E hRt hLk hK hl hw
  have Ex := E.1
  have Eb := E.2.1
  have huRX2 : ∀ w ∈ u_ws RX2 TX2 10, w ∈ wsX2_isRunning := by decide +kernel
  have hf15 : (Cond.fieldLink RX2 15 "LoanSchedule$Loan" "balance" "I").before _ s9 = true := E.2.2.2.2 _ (List.mem_of_getElem? (i := 1) rfl)
  refine lv_aload_n Ex Eb dX2_isRunning_0 rfl (lv_at hl 0 rfl) ?_
  refine lo_get E hK hw huRX2 1 hf15 rfl 0 rfl rfl (by decide) (v := .int (iI (L 1))) rfl dX2_isRunning_1 ?_
  refine lo_if_le (tgt := 11) E dX2_isRunning_4 (by decide) (by omega) (fun c1 => ?_) (fun c1 => ?_)
  · skip
    refine lv_iconst (v := iI 0) Ex Eb dX2_isRunning_11 rfl ?_
    exact lo_zret E hRt hLk hK hAe hw dX2_isRunning_12 rfl rfl ⟨0, (by omega), rfl, rfl⟩
  · skip
    refine lv_iconst (v := iI 1) Ex Eb dX2_isRunning_7 rfl ?_
    refine lv_goto (tgt := 12) Ex Eb dX2_isRunning_8 (by decide) ?_
    exact lo_zret E hRt hLk hK hAe hw dX2_isRunning_12 rfl rfl ⟨1, (by omega), rfl, rfl⟩
set_option maxHeartbeats 4000000 in
set_option maxRecDepth 100000 in
theorem kX2_canReduce (l : Launch) (X : KX) (h : Nat) (L : Nat → Int) (a : Int) (hb : i32 (L 1)) (ha : i32 a) : CM l X yX2_canReduce wsX2_canReduce ({ frames := 0, cells := 0, slots := 0, locals := 0 }) [.ref h, .int (iI a)] ([oX2 h (L 0) (L 1) (L 2) (L 3) (L 4) (L 5) (L 6) (L 7) (L 8) (L 9)]) (fun v9 w9 => ∃ r : Int, ((r = 1 ∧ 0 < (L 1) ∧ a ≤ (L 1)) ∨ (r = 0 ∧ ¬ (0 < (L 1) ∧ a ≤ (L 1)))) ∧ v9 = some (.int (iI r)) ∧ w9 = [oX2 h (L 0) (L 1) (L 2) (L 3) (L 4) (L 5) (L 6) (L 7) (L 8) (L 9)]) 0 0 := by
  refine lo_enter (cc := cX2_canReduce) (maxL := 2) (ret := (some .boolean)) (lv := [(0, .ref h), (1, .int (iI a))]) (by decide) rfl rfl (Nat.le_of_ble_eq_true rfl) ?_
  intro p9 e9 s9 m9 bl9 me9 c9 A9 ls hAe E hRt hLk hK hl hw
  have Ex := E.1
  have Eb := E.2.1
  have huRX2 : ∀ w ∈ u_ws RX2 TX2 10, w ∈ wsX2_canReduce := by decide +kernel
  have hf15 : (Cond.fieldLink RX2 15 "LoanSchedule$Loan" "balance" "I").before _ s9 = true := E.2.2.2.2 _ (List.mem_of_getElem? (i := 1) rfl)
  refine lv_aload_n Ex Eb dX2_canReduce_0 rfl (lv_at hl 0 rfl) ?_
  refine lo_get E hK hw huRX2 1 hf15 rfl 0 rfl rfl (by decide) (v := .int (iI (L 1))) rfl dX2_canReduce_1 ?_
  refine lo_if_le (tgt := 19) E dX2_canReduce_4 (by decide) (by omega) (fun c1 => ?_) (fun c1 => ?_)
  · skip
    refine lv_iconst (v := iI 0) Ex Eb dX2_canReduce_19 rfl ?_
    exact lo_zret E hRt hLk hK hAe hw dX2_canReduce_20 rfl rfl ⟨0, (by omega), rfl, rfl⟩
  · skip
    refine lv_iload_n Ex Eb dX2_canReduce_7 rfl (lv_at hl 1 rfl) ?_
    refine lv_aload_n Ex Eb dX2_canReduce_8 rfl (lv_at hl 0 rfl) ?_
    refine lo_get E hK hw huRX2 1 hf15 rfl 0 rfl rfl (by decide) (v := .int (iI (L 1))) rfl dX2_canReduce_9 ?_
    refine lo_icmp_gt (tgt := 19) E dX2_canReduce_12 (by decide) (by omega) (by omega) (fun c2 => ?_) (fun c2 => ?_)
    · skip
      refine lv_iconst (v := iI 0) Ex Eb dX2_canReduce_19 rfl ?_
      exact lo_zret E hRt hLk hK hAe hw dX2_canReduce_20 rfl rfl ⟨0, (by omega), rfl, rfl⟩
    · skip
      refine lv_iconst (v := iI 1) Ex Eb dX2_canReduce_15 rfl ?_
      refine lv_goto (tgt := 20) Ex Eb dX2_canReduce_16 (by decide) ?_
      exact lo_zret E hRt hLk hK hAe hw dX2_canReduce_20 rfl rfl ⟨1, (by omega), rfl, rfl⟩
set_option maxHeartbeats 4000000 in
set_option maxRecDepth 100000 in
/-- the interest of the next month -/
theorem kX2_nextInterest (l : Launch) (X : KX) (h : Nat) (L : Nat → Int) (hb0 : 0 ≤ (L 1)) (hb1 : (L 1) ≤ 9999999) (hr0 : 0 ≤ (L 2)) (hr1 : (L 2) ≤ 3000) (hc0 : 0 ≤ (L 5)) (hc1 : (L 5) < 120000) : CM l X yX2_nextInterest wsX2_nextInterest ({ frames := 0, cells := 0, slots := 0, locals := 0 }) [.ref h] ([oX2 h (L 0) (L 1) (L 2) (L 3) (L 4) (L 5) (L 6) (L 7) (L 8) (L 9)]) (fun v9 w9 => v9 = some (.int (iI (fI (L 1) (L 2) (L 5)))) ∧ w9 = [oX2 h (L 0) (L 1) (L 2) (L 3) (L 4) (L 5) (L 6) (L 7) (L 8) (L 9)]) 0 0 := by
  refine lo_enter (cc := cX2_nextInterest) (maxL := 1) (ret := (some .int)) (lv := [(0, .ref h)]) (by decide) rfl rfl (Nat.le_of_ble_eq_true rfl) ?_
  intro p9 e9 s9 m9 bl9 me9 c9 A9 ls hAe E hRt hLk hK hl hw
  have Ex := E.1
  have Eb := E.2.1
  have huRX2 : ∀ w ∈ u_ws RX2 TX2 10, w ∈ wsX2_nextInterest := by decide +kernel
  have hf15 : (Cond.fieldLink RX2 15 "LoanSchedule$Loan" "balance" "I").before _ s9 = true := E.2.2.2.2 _ (List.mem_of_getElem? (i := 1) rfl)
  have hf18 : (Cond.fieldLink RX2 18 "LoanSchedule$Loan" "rate" "I").before _ s9 = true := E.2.2.2.2 _ (List.mem_of_getElem? (i := 2) rfl)
  have hf27 : (Cond.fieldLink RX2 27 "LoanSchedule$Loan" "carry" "I").before _ s9 = true := E.2.2.2.2 _ (List.mem_of_getElem? (i := 3) rfl)
  have hc51 : (Cond.constantLong RX2 51 (120000)).before _ s9 = true := E.2.2.2.2 _ (List.mem_of_getElem? (i := 4) rfl)
  have hmb := lo_mb hb0 hr0 hr1
  have hfi := fI_r hb0 hr0 hr1 hc0 hc1
  have hfc := fC_r (L 1) (L 2) (L 5)
  refine lv_aload_n Ex Eb dX2_nextInterest_0 rfl (lv_at hl 0 rfl) ?_
  refine lo_get E hK hw huRX2 1 hf15 rfl 0 rfl rfl (by decide) (v := .int (iI (L 1))) rfl dX2_nextInterest_1 ?_
  refine lo_i2l E dX2_nextInterest_4 (by omega) ?_
  refine lv_aload_n Ex Eb dX2_nextInterest_5 rfl (lv_at hl 0 rfl) ?_
  refine lo_get E hK hw huRX2 2 hf18 rfl 0 rfl rfl (by decide) (v := .int (iI (L 2))) rfl dX2_nextInterest_6 ?_
  refine lo_i2l E dX2_nextInterest_9 (by omega) ?_
  refine lo_lmul E dX2_nextInterest_10 ?_
  refine lv_aload_n Ex Eb dX2_nextInterest_11 rfl (lv_at hl 0 rfl) ?_
  refine lo_get E hK hw huRX2 5 hf27 rfl 0 rfl rfl (by decide) (v := .int (iI (L 5))) rfl dX2_nextInterest_12 ?_
  refine lo_i2l E dX2_nextInterest_15 (by omega) ?_
  refine lo_ladd E dX2_nextInterest_16 ?_
  refine lo_ldc2 (z := 120000) E hc51 dX2_nextInterest_17 rfl ?_
  refine lo_ldiv E dX2_nextInterest_20 (by omega) (by omega) ?_
  refine lo_l2i E dX2_nextInterest_21 ?_
  exact lo_iret E hRt hLk hK hAe hw dX2_nextInterest_22 rfl ⟨rfl, rfl⟩
set_option maxHeartbeats 4000000 in
set_option maxRecDepth 100000 in
theorem kX2_canDefer (l : Launch) (X : KX) (h : Nat) (L : Nat → Int) (hb0 : 0 ≤ (L 1)) (hb1 : (L 1) ≤ 9999999) (hr0 : 0 ≤ (L 2)) (hr1 : (L 2) ≤ 3000) (hc0 : 0 ≤ (L 5)) (hc1 : (L 5) < 120000) (hk : i32 (L 9)) : CM l X yX2_canDefer wsX2_canDefer ({ frames := 1, cells := 0, slots := 0, locals := 20 }) [.ref h] ([oX2 h (L 0) (L 1) (L 2) (L 3) (L 4) (L 5) (L 6) (L 7) (L 8) (L 9)]) (fun v9 w9 => ∃ r : Int, ((r = 1 ∧ 0 < (L 1) ∧ (L 9) < 6 ∧ fW (L 1) (L 2) (L 5) ≤ 9999999) ∨ (r = 0 ∧ ¬ (0 < (L 1) ∧ (L 9) < 6 ∧ fW (L 1) (L 2) (L 5) ≤ 9999999))) ∧ v9 = some (.int (iI r)) ∧ w9 = [oX2 h (L 0) (L 1) (L 2) (L 3) (L 4) (L 5) (L 6) (L 7) (L 8) (L 9)]) 0 0 := by
  refine lo_enter (cc := cX2_canDefer) (maxL := 1) (ret := (some .boolean)) (lv := [(0, .ref h)]) (by decide) rfl rfl (Nat.le_of_ble_eq_true rfl) ?_
  intro p9 e9 s9 m9 bl9 me9 c9 A9 ls hAe E hRt hLk hK hl hw
  have Ex := E.1
  have Eb := E.2.1
  have huRX2 : ∀ w ∈ u_ws RX2 TX2 10, w ∈ wsX2_canDefer := by decide +kernel
  have hf15 : (Cond.fieldLink RX2 15 "LoanSchedule$Loan" "balance" "I").before _ s9 = true := E.2.2.2.2 _ (List.mem_of_getElem? (i := 1) rfl)
  have hf39 : (Cond.fieldLink RX2 39 "LoanSchedule$Loan" "deferredCount" "I").before _ s9 = true := E.2.2.2.2 _ (List.mem_of_getElem? (i := 2) rfl)
  have hc50 : (Cond.constant RX2 50 (9999999)).before _ s9 = true := E.2.2.2.2 _ (List.mem_of_getElem? (i := 3) rfl)
  have hmb := lo_mb hb0 hr0 hr1
  have hfi := fI_r hb0 hr0 hr1 hc0 hc1
  have hfc := fC_r (L 1) (L 2) (L 5)
  refine lv_aload_n Ex Eb dX2_canDefer_0 rfl (lv_at hl 0 rfl) ?_
  refine lo_get E hK hw huRX2 1 hf15 rfl 0 rfl rfl (by decide) (v := .int (iI (L 1))) rfl dX2_canDefer_1 ?_
  refine lo_if_le (tgt := 34) E dX2_canDefer_4 (by decide) (by omega) (fun c1 => ?_) (fun c1 => ?_)
  · skip
    refine lv_iconst (v := iI 0) Ex Eb dX2_canDefer_34 rfl ?_
    exact lo_zret E hRt hLk hK hAe hw dX2_canDefer_35 rfl rfl ⟨0, (by unfold fW; omega), rfl, rfl⟩
  · skip
    refine lv_aload_n Ex Eb dX2_canDefer_7 rfl (lv_at hl 0 rfl) ?_
    refine lo_get E hK hw huRX2 9 hf39 rfl 0 rfl rfl (by decide) (v := .int (iI (L 9))) rfl dX2_canDefer_8 ?_
    refine lv_bipush (v := iI 6) Ex Eb dX2_canDefer_11 rfl ?_
    refine lo_icmp_ge (tgt := 34) E dX2_canDefer_13 (by decide) (by omega) (by omega) (fun c2 => ?_) (fun c2 => ?_)
    · skip
      refine lv_iconst (v := iI 0) Ex Eb dX2_canDefer_34 rfl ?_
      exact lo_zret E hRt hLk hK hAe hw dX2_canDefer_35 rfl rfl ⟨0, (by unfold fW; omega), rfl, rfl⟩
    · skip
      refine lv_aload_n Ex Eb dX2_canDefer_16 rfl (lv_at hl 0 rfl) ?_
      refine lo_get E hK hw huRX2 1 hf15 rfl 0 rfl rfl (by decide) (v := .int (iI (L 1))) rfl dX2_canDefer_17 ?_
      refine lv_aload_n Ex Eb dX2_canDefer_20 rfl (lv_at hl 0 rfl) ?_
      refine lo_callV (q0 := 0) (rest := [.int (iI (L 1))]) E hK hw (kX2_nextInterest l X h L (by omega) (by omega) (by omega) (by omega) (by omega) (by omega)) (cwV 0 E.2.2.2.2 gX2_canDefer_X2_nextInterest rfl rfl rfl (by decide +kernel) ⟨Nat.le_of_ble_eq_true rfl, Nat.le_of_ble_eq_true rfl⟩) rfl rfl [0] rfl (by decide) hl.1 rfl rfl (Nat.le_of_ble_eq_true rfl) dX2_canDefer_21 ⟨Nat.le_of_ble_eq_true rfl, Nat.le_of_ble_eq_true rfl⟩ (fun v w1 H locs hq hw => ?_)
      obtain ⟨rfl, rfl⟩ := hq
      have hw : lo_Wd X ([oX2 h (L 0) (L 1) (L 2) (L 3) (L 4) (L 5) (L 6) (L 7) (L 8) (L 9)]) A9 s9.heap H locs := hw
      refine W.eq (g2 := F0 m9 24 ls [.int (iI (fI (L 1) (L 2) (L 5))), .int (iI (L 1))]) rfl ?_
      refine lo_iadd E dX2_canDefer_24 ?_
      refine lo_ldc (z := 9999999) E hc50 dX2_canDefer_25 rfl ?_
      refine lo_icmp_gt (tgt := 34) E dX2_canDefer_27 (by decide) (by omega) (by omega) (fun c3 => ?_) (fun c3 => ?_)
      · skip
        refine lv_iconst (v := iI 0) Ex Eb dX2_canDefer_34 rfl ?_
        exact lo_zret E hRt hLk hK hAe hw dX2_canDefer_35 rfl rfl ⟨0, (by unfold fW; omega), rfl, rfl⟩
      · skip
        refine lv_iconst (v := iI 1) Ex Eb dX2_canDefer_30 rfl ?_
        refine lv_goto (tgt := 35) Ex Eb dX2_canDefer_31 (by decide) ?_
        exact lo_zret E hRt hLk hK hAe hw dX2_canDefer_35 rfl rfl ⟨1, (by unfold fW; omega), rfl, rfl⟩
set_option maxHeartbeats 4000000 in
set_option maxRecDepth 100000 in
theorem kX2_canLengthen (l : Launch) (X : KX) (h : Nat) (L : Nat → Int) (a : Int) (hb : i32 (L 1)) (ha : 0 ≤ a ∧ a ≤ 1000) (hm : 0 ≤ (L 3) ∧ (L 3) ≤ 1000) : CM l X yX2_canLengthen wsX2_canLengthen ({ frames := 0, cells := 0, slots := 0, locals := 0 }) [.ref h, .int (iI a)] ([oX2 h (L 0) (L 1) (L 2) (L 3) (L 4) (L 5) (L 6) (L 7) (L 8) (L 9)]) (fun v9 w9 => ∃ r : Int, ((r = 1 ∧ 0 < (L 1) ∧ (L 3) + a ≤ 120) ∨ (r = 0 ∧ ¬ (0 < (L 1) ∧ (L 3) + a ≤ 120))) ∧ v9 = some (.int (iI r)) ∧ w9 = [oX2 h (L 0) (L 1) (L 2) (L 3) (L 4) (L 5) (L 6) (L 7) (L 8) (L 9)]) 0 0 := by
  refine lo_enter (cc := cX2_canLengthen) (maxL := 2) (ret := (some .boolean)) (lv := [(0, .ref h), (1, .int (iI a))]) (by decide) rfl rfl (Nat.le_of_ble_eq_true rfl) ?_
  intro p9 e9 s9 m9 bl9 me9 c9 A9 ls hAe E hRt hLk hK hl hw
  have Ex := E.1
  have Eb := E.2.1
  have huRX2 : ∀ w ∈ u_ws RX2 TX2 10, w ∈ wsX2_canLengthen := by decide +kernel
  have hf15 : (Cond.fieldLink RX2 15 "LoanSchedule$Loan" "balance" "I").before _ s9 = true := E.2.2.2.2 _ (List.mem_of_getElem? (i := 1) rfl)
  have hf21 : (Cond.fieldLink RX2 21 "LoanSchedule$Loan" "monthsLeft" "I").before _ s9 = true := E.2.2.2.2 _ (List.mem_of_getElem? (i := 2) rfl)
  refine lv_aload_n Ex Eb dX2_canLengthen_0 rfl (lv_at hl 0 rfl) ?_
  refine lo_get E hK hw huRX2 1 hf15 rfl 0 rfl rfl (by decide) (v := .int (iI (L 1))) rfl dX2_canLengthen_1 ?_
  refine lo_if_le (tgt := 22) E dX2_canLengthen_4 (by decide) (by omega) (fun c1 => ?_) (fun c1 => ?_)
  · skip
    refine lv_iconst (v := iI 0) Ex Eb dX2_canLengthen_22 rfl ?_
    exact lo_zret E hRt hLk hK hAe hw dX2_canLengthen_23 rfl rfl ⟨0, (by omega), rfl, rfl⟩
  · skip
    refine lv_aload_n Ex Eb dX2_canLengthen_7 rfl (lv_at hl 0 rfl) ?_
    refine lo_get E hK hw huRX2 3 hf21 rfl 0 rfl rfl (by decide) (v := .int (iI (L 3))) rfl dX2_canLengthen_8 ?_
    refine lv_iload_n Ex Eb dX2_canLengthen_11 rfl (lv_at hl 1 rfl) ?_
    refine lo_iadd E dX2_canLengthen_12 ?_
    refine lv_bipush (v := iI 120) Ex Eb dX2_canLengthen_13 rfl ?_
    refine lo_icmp_gt (tgt := 22) E dX2_canLengthen_15 (by decide) (by omega) (by omega) (fun c2 => ?_) (fun c2 => ?_)
    · skip
      refine lv_iconst (v := iI 0) Ex Eb dX2_canLengthen_22 rfl ?_
      exact lo_zret E hRt hLk hK hAe hw dX2_canLengthen_23 rfl rfl ⟨0, (by omega), rfl, rfl⟩
    · skip
      refine lv_iconst (v := iI 1) Ex Eb dX2_canLengthen_18 rfl ?_
      refine lv_goto (tgt := 23) Ex Eb dX2_canLengthen_19 (by decide) ?_
      exact lo_zret E hRt hLk hK hAe hw dX2_canLengthen_23 rfl rfl ⟨1, (by omega), rfl, rfl⟩
set_option maxHeartbeats 4000000 in
set_option maxRecDepth 100000 in
theorem kX2_partDue (l : Launch) (X : KX) (h : Nat) (L : Nat → Int) (w : Int) (hw0 : i32 w) (hi : i32 (L 4)) (hm : i32 (L 3)) : CM l X yX2_partDue wsX2_partDue ({ frames := 0, cells := 0, slots := 0, locals := 0 }) [.ref h, .int (iI w)] ([oX2 h (L 0) (L 1) (L 2) (L 3) (L 4) (L 5) (L 6) (L 7) (L 8) (L 9)]) (fun v9 w9 => v9 = some (.int (iI (fD w (L 4) (L 3)))) ∧ w9 = [oX2 h (L 0) (L 1) (L 2) (L 3) (L 4) (L 5) (L 6) (L 7) (L 8) (L 9)]) 0 0 := by
  refine lo_enter (cc := cX2_partDue) (maxL := 2) (ret := (some .int)) (lv := [(0, .ref h), (1, .int (iI w))]) (by decide) rfl rfl (Nat.le_of_ble_eq_true rfl) ?_
  intro p9 e9 s9 m9 bl9 me9 c9 A9 ls hAe E hRt hLk hK hl hw
  have Ex := E.1
  have Eb := E.2.1
  have huRX2 : ∀ w ∈ u_ws RX2 TX2 10, w ∈ wsX2_partDue := by decide +kernel
  have hf24 : (Cond.fieldLink RX2 24 "LoanSchedule$Loan" "installment" "I").before _ s9 = true := E.2.2.2.2 _ (List.mem_of_getElem? (i := 1) rfl)
  have hf21 : (Cond.fieldLink RX2 21 "LoanSchedule$Loan" "monthsLeft" "I").before _ s9 = true := E.2.2.2.2 _ (List.mem_of_getElem? (i := 2) rfl)
  refine lv_iload_n Ex Eb dX2_partDue_0 rfl (lv_at hl 1 rfl) ?_
  refine lv_aload_n Ex Eb dX2_partDue_1 rfl (lv_at hl 0 rfl) ?_
  refine lo_get E hK hw huRX2 4 hf24 rfl 0 rfl rfl (by decide) (v := .int (iI (L 4))) rfl dX2_partDue_2 ?_
  refine lo_icmp_le (tgt := 16) E dX2_partDue_5 (by decide) (by omega) (by omega) (fun c1 => ?_) (fun c1 => ?_)
  · skip
    refine lv_iload_n Ex Eb dX2_partDue_16 rfl (lv_at hl 1 rfl) ?_
    refine lv_goto (tgt := 24) Ex Eb dX2_partDue_17 (by decide) ?_
    exact lo_iret E hRt hLk hK hAe hw dX2_partDue_24 rfl ⟨by first | rw [fD_w (by omega)] | rw [fD_i (by omega) (by omega)], rfl⟩
  · skip
    refine lv_aload_n Ex Eb dX2_partDue_8 rfl (lv_at hl 0 rfl) ?_
    refine lo_get E hK hw huRX2 3 hf21 rfl 0 rfl rfl (by decide) (v := .int (iI (L 3))) rfl dX2_partDue_9 ?_
    refine lv_iconst (v := iI 1) Ex Eb dX2_partDue_12 rfl ?_
    refine lo_icmp_ne (tgt := 20) E dX2_partDue_13 (by decide) (by omega) (by omega) (fun c2 => ?_) (fun c2 => ?_)
    · skip
      refine lv_aload_n Ex Eb dX2_partDue_20 rfl (lv_at hl 0 rfl) ?_
      refine lo_get E hK hw huRX2 4 hf24 rfl 0 rfl rfl (by decide) (v := .int (iI (L 4))) rfl dX2_partDue_21 ?_
      exact lo_iret E hRt hLk hK hAe hw dX2_partDue_24 rfl ⟨by first | rw [fD_w (by omega)] | rw [fD_i (by omega) (by omega)], rfl⟩
    · skip
      refine lv_iload_n Ex Eb dX2_partDue_16 rfl (lv_at hl 1 rfl) ?_
      refine lv_goto (tgt := 24) Ex Eb dX2_partDue_17 (by decide) ?_
      exact lo_iret E hRt hLk hK hAe hw dX2_partDue_24 rfl ⟨by first | rw [fD_w (by omega)] | rw [fD_i (by omega) (by omega)], rfl⟩
set_option maxHeartbeats 4000000 in
set_option maxRecDepth 100000 in
theorem kX2_nextDue (l : Launch) (X : KX) (h : Nat) (L : Nat → Int) (hb0 : 0 ≤ (L 1)) (hb1 : (L 1) ≤ 9999999) (hr0 : 0 ≤ (L 2)) (hr1 : (L 2) ≤ 3000) (hc0 : 0 ≤ (L 5)) (hc1 : (L 5) < 120000) (hi : i32 (L 4)) (hm : i32 (L 3)) : CM l X yX2_nextDue wsX2_nextDue ({ frames := 1, cells := 0, slots := 0, locals := 21 }) [.ref h] ([oX2 h (L 0) (L 1) (L 2) (L 3) (L 4) (L 5) (L 6) (L 7) (L 8) (L 9)]) (fun v9 w9 => v9 = some (.int (iI (dueL L))) ∧ w9 = [oX2 h (L 0) (L 1) (L 2) (L 3) (L 4) (L 5) (L 6) (L 7) (L 8) (L 9)]) 0 0 := by
  refine lo_enter (cc := cX2_nextDue) (maxL := 1) (ret := (some .int)) (lv := [(0, .ref h)]) (by decide) rfl rfl (Nat.le_of_ble_eq_true rfl) ?_
  intro p9 e9 s9 m9 bl9 me9 c9 A9 ls hAe E hRt hLk hK hl hw
  have Ex := E.1
  have Eb := E.2.1
  have huRX2 : ∀ w ∈ u_ws RX2 TX2 10, w ∈ wsX2_nextDue := by decide +kernel
  have hf15 : (Cond.fieldLink RX2 15 "LoanSchedule$Loan" "balance" "I").before _ s9 = true := E.2.2.2.2 _ (List.mem_of_getElem? (i := 1) rfl)
  have hmb := lo_mb hb0 hr0 hr1
  have hfi := fI_r hb0 hr0 hr1 hc0 hc1
  have hfc := fC_r (L 1) (L 2) (L 5)
  refine lv_aload_n Ex Eb dX2_nextDue_0 rfl (lv_at hl 0 rfl) ?_
  refine lv_aload_n Ex Eb dX2_nextDue_1 rfl (lv_at hl 0 rfl) ?_
  refine lo_get E hK hw huRX2 1 hf15 rfl 0 rfl rfl (by decide) (v := .int (iI (L 1))) rfl dX2_nextDue_2 ?_
  refine lv_aload_n Ex Eb dX2_nextDue_5 rfl (lv_at hl 0 rfl) ?_
  refine lo_callV (q0 := 0) (rest := [.int (iI (L 1)), .ref h]) E hK hw (kX2_nextInterest l X h L (by omega) (by omega) (by omega) (by omega) (by omega) (by omega)) (cwV 0 E.2.2.2.2 gX2_nextDue_X2_nextInterest rfl rfl rfl (by decide +kernel) ⟨Nat.le_of_ble_eq_true rfl, Nat.le_of_ble_eq_true rfl⟩) rfl rfl [0] rfl (by decide) hl.1 rfl rfl (Nat.le_of_ble_eq_true rfl) dX2_nextDue_6 ⟨Nat.le_of_ble_eq_true rfl, Nat.le_of_ble_eq_true rfl⟩ (fun v w1 H locs hq hw => ?_)
  obtain ⟨rfl, rfl⟩ := hq
  have hw : lo_Wd X ([oX2 h (L 0) (L 1) (L 2) (L 3) (L 4) (L 5) (L 6) (L 7) (L 8) (L 9)]) A9 s9.heap H locs := hw
  refine W.eq (g2 := F0 m9 9 ls [.int (iI (fI (L 1) (L 2) (L 5))), .int (iI (L 1)), .ref h]) rfl ?_
  refine lo_iadd E dX2_nextDue_9 ?_
  refine lo_callV (q0 := 0) (rest := []) E hK hw (kX2_partDue l X h L ((L 1) + fI (L 1) (L 2) (L 5)) (by omega) (by omega) (by omega)) (cwV 1 E.2.2.2.2 gX2_nextDue_X2_partDue rfl rfl rfl (by decide +kernel) ⟨Nat.le_of_ble_eq_true rfl, Nat.le_of_ble_eq_true rfl⟩) rfl rfl [0] rfl (by decide) hl.1 rfl rfl (Nat.le_of_ble_eq_true rfl) dX2_nextDue_10 ⟨Nat.le_of_ble_eq_true rfl, Nat.le_of_ble_eq_true rfl⟩ (fun v w1 H locs hq hw => ?_)
  obtain ⟨rfl, rfl⟩ := hq
  have hw : lo_Wd X ([oX2 h (L 0) (L 1) (L 2) (L 3) (L 4) (L 5) (L 6) (L 7) (L 8) (L 9)]) A9 s9.heap H locs := hw
  refine W.eq (g2 := F0 m9 13 ls [.int (iI (fD ((L 1) + fI (L 1) (L 2) (L 5)) (L 4) (L 3)))]) rfl ?_
  exact lo_iret E hRt hLk hK hAe hw dX2_nextDue_13 rfl ⟨rfl, rfl⟩
set_option maxHeartbeats 4000000 in
set_option maxRecDepth 100000 in
theorem kX2_addInterest (l : Launch) (X : KX) (h : Nat) (L : Nat → Int) (hb0 : 0 ≤ (L 1)) (hb1 : (L 1) ≤ 9999999) (hr0 : 0 ≤ (L 2)) (hr1 : (L 2) ≤ 3000) (hc0 : 0 ≤ (L 5)) (hc1 : (L 5) < 120000) : CM l X yX2_addInterest wsX2_addInterest ({ frames := 0, cells := 0, slots := 0, locals := 0 }) [.ref h] ([oX2 h (L 0) (L 1) (L 2) (L 3) (L 4) (L 5) (L 6) (L 7) (L 8) (L 9)]) (fun v9 w9 => v9 = some (.int (iI (fI (L 1) (L 2) (L 5)))) ∧ w9 = [oX2 h (L 0) (fW (L 1) (L 2) (L 5)) (L 2) (L 3) (L 4) (fC (L 1) (L 2) (L 5)) ((L 6) + fI (L 1) (L 2) (L 5)) (L 7) (L 8) (L 9)]) 0 0 := by
  refine lo_enter (cc := cX2_addInterest) (maxL := 4) (ret := (some .int)) (lv := [(0, .ref h)]) (by decide) rfl rfl (Nat.le_of_ble_eq_true rfl) ?_
  intro p9 e9 s9 m9 bl9 me9 c9 A9 ls hAe E hRt hLk hK hl hw
  have Ex := E.1
  have Eb := E.2.1
  have huRX2 : ∀ w ∈ u_ws RX2 TX2 10, w ∈ wsX2_addInterest := by decide +kernel
  have hf15 : (Cond.fieldLink RX2 15 "LoanSchedule$Loan" "balance" "I").before _ s9 = true := E.2.2.2.2 _ (List.mem_of_getElem? (i := 1) rfl)
  have hf18 : (Cond.fieldLink RX2 18 "LoanSchedule$Loan" "rate" "I").before _ s9 = true := E.2.2.2.2 _ (List.mem_of_getElem? (i := 2) rfl)
  have hf27 : (Cond.fieldLink RX2 27 "LoanSchedule$Loan" "carry" "I").before _ s9 = true := E.2.2.2.2 _ (List.mem_of_getElem? (i := 3) rfl)
  have hc51 : (Cond.constantLong RX2 51 (120000)).before _ s9 = true := E.2.2.2.2 _ (List.mem_of_getElem? (i := 4) rfl)
  have hf30 : (Cond.fieldLink RX2 30 "LoanSchedule$Loan" "interestSum" "I").before _ s9 = true := E.2.2.2.2 _ (List.mem_of_getElem? (i := 5) rfl)
  have hmb := lo_mb hb0 hr0 hr1
  have hfi := fI_r hb0 hr0 hr1 hc0 hc1
  have hfc := fC_r (L 1) (L 2) (L 5)
  refine lv_aload_n Ex Eb dX2_addInterest_0 rfl (lv_at hl 0 rfl) ?_
  refine lo_get E hK hw huRX2 1 hf15 rfl 0 rfl rfl (by decide) (v := .int (iI (L 1))) rfl dX2_addInterest_1 ?_
  refine lo_i2l E dX2_addInterest_4 (by omega) ?_
  refine lv_aload_n Ex Eb dX2_addInterest_5 rfl (lv_at hl 0 rfl) ?_
  refine lo_get E hK hw huRX2 2 hf18 rfl 0 rfl rfl (by decide) (v := .int (iI (L 2))) rfl dX2_addInterest_6 ?_
  refine lo_i2l E dX2_addInterest_9 (by omega) ?_
  refine lo_lmul E dX2_addInterest_10 ?_
  refine lv_aload_n Ex Eb dX2_addInterest_11 rfl (lv_at hl 0 rfl) ?_
  refine lo_get E hK hw huRX2 5 hf27 rfl 0 rfl rfl (by decide) (v := .int (iI (L 5))) rfl dX2_addInterest_12 ?_
  refine lo_i2l E dX2_addInterest_15 (by omega) ?_
  refine lo_ladd E dX2_addInterest_16 ?_
  refine lv_lstore_n (lv' := [(1, .long (iL (((L 1) * (L 2)) + (L 5)))), (0, .ref h)]) Ex Eb dX2_addInterest_17 rfl hl (by decide) rfl (fun ls hl => ?_)
  refine lv_lload_n Ex Eb dX2_addInterest_18 rfl (lv_at hl 0 rfl) ?_
  refine lo_ldc2 (z := 120000) E hc51 dX2_addInterest_19 rfl ?_
  refine lo_ldiv E dX2_addInterest_22 (by omega) (by omega) ?_
  refine lo_l2i E dX2_addInterest_23 ?_
  refine lv_istore_n (lv' := [(3, .int (iI ((((L 1) * (L 2)) + (L 5)) / 120000))), (1, .long (iL (((L 1) * (L 2)) + (L 5)))), (0, .ref h)]) Ex Eb dX2_addInterest_24 rfl hl (by decide) rfl (fun ls hl => ?_)
  refine lv_aload_n Ex Eb dX2_addInterest_25 rfl (lv_at hl 2 rfl) ?_
  refine lv_lload_n Ex Eb dX2_addInterest_26 rfl (lv_at hl 1 rfl) ?_
  refine lo_ldc2 (z := 120000) E hc51 dX2_addInterest_27 rfl ?_
  refine lo_lrem E dX2_addInterest_30 (by omega) (by omega) ?_
  refine lo_l2i E dX2_addInterest_31 ?_
  refine lo_put E hK hw huRX2 tyX2 tyX2_ok nmX2 5 hf27 rfl 0 rfl rfl (by decide) rfl rfl rfl rfl (Nat.le_of_ble_eq_true rfl) (ws' := [oX2 h (L 0) (L 1) (L 2) (L 3) (L 4) ((((L 1) * (L 2)) + (L 5)) % 120000) (L 6) (L 7) (L 8) (L 9)]) rfl dX2_addInterest_32 (fun H locs hw => ?_)
  refine lv_aload_n Ex Eb dX2_addInterest_35 rfl (lv_at hl 2 rfl) ?_
  refine lv_dup Ex Eb dX2_addInterest_36 rfl ?_
  refine lo_get E hK hw huRX2 1 hf15 rfl 0 rfl rfl (by decide) (v := .int (iI (L 1))) rfl dX2_addInterest_37 ?_
  refine lv_iload_n Ex Eb dX2_addInterest_40 rfl (lv_at hl 0 rfl) ?_
  refine lo_iadd E dX2_addInterest_41 ?_
  refine lo_put E hK hw huRX2 tyX2 tyX2_ok nmX2 1 hf15 rfl 0 rfl rfl (by decide) rfl rfl rfl rfl (Nat.le_of_ble_eq_true rfl) (ws' := [oX2 h (L 0) ((L 1) + ((((L 1) * (L 2)) + (L 5)) / 120000)) (L 2) (L 3) (L 4) ((((L 1) * (L 2)) + (L 5)) % 120000) (L 6) (L 7) (L 8) (L 9)]) rfl dX2_addInterest_42 (fun H locs hw => ?_)
  refine lv_aload_n Ex Eb dX2_addInterest_45 rfl (lv_at hl 2 rfl) ?_
  refine lv_dup Ex Eb dX2_addInterest_46 rfl ?_
  refine lo_get E hK hw huRX2 6 hf30 rfl 0 rfl rfl (by decide) (v := .int (iI (L 6))) rfl dX2_addInterest_47 ?_
  refine lv_iload_n Ex Eb dX2_addInterest_50 rfl (lv_at hl 0 rfl) ?_
  refine lo_iadd E dX2_addInterest_51 ?_
  refine lo_put E hK hw huRX2 tyX2 tyX2_ok nmX2 6 hf30 rfl 0 rfl rfl (by decide) rfl rfl rfl rfl (Nat.le_of_ble_eq_true rfl) (ws' := [oX2 h (L 0) ((L 1) + ((((L 1) * (L 2)) + (L 5)) / 120000)) (L 2) (L 3) (L 4) ((((L 1) * (L 2)) + (L 5)) % 120000) ((L 6) + ((((L 1) * (L 2)) + (L 5)) / 120000)) (L 7) (L 8) (L 9)]) rfl dX2_addInterest_52 (fun H locs hw => ?_)
  refine lv_iload_n Ex Eb dX2_addInterest_55 rfl (lv_at hl 0 rfl) ?_
  exact lo_iret E hRt hLk hK hAe hw dX2_addInterest_56 rfl ⟨rfl, rfl⟩
set_option maxHeartbeats 4000000 in
set_option maxRecDepth 100000 in
theorem kX2_takeOff (l : Launch) (X : KX) (h : Nat) (L : Nat → Int) (a : Int) (hba : i32 ((L 1) - a)) : CM l X yX2_takeOff wsX2_takeOff ({ frames := 0, cells := 0, slots := 0, locals := 0 }) [.ref h, .int (iI a)] ([oX2 h (L 0) (L 1) (L 2) (L 3) (L 4) (L 5) (L 6) (L 7) (L 8) (L 9)]) (fun v9 w9 => v9 = none ∧ w9 = [oX2 h (L 0) ((L 1) - a) (L 2) (fz ((L 1) - a) (L 3)) (fz ((L 1) - a) (L 4)) (fz ((L 1) - a) (L 5)) (L 6) ((L 7) + a) (L 8) (L 9)]) 0 0 := by
  refine lo_enter (cc := cX2_takeOff) (maxL := 2) (ret := none) (lv := [(0, .ref h), (1, .int (iI a))]) (by decide) rfl rfl (Nat.le_of_ble_eq_true rfl) ?_
  intro p9 e9 s9 m9 bl9 me9 c9 A9 ls hAe E hRt hLk hK hl hw
  have Ex := E.1
  have Eb := E.2.1
  have huRX2 : ∀ w ∈ u_ws RX2 TX2 10, w ∈ wsX2_takeOff := by decide +kernel
  have hf15 : (Cond.fieldLink RX2 15 "LoanSchedule$Loan" "balance" "I").before _ s9 = true := E.2.2.2.2 _ (List.mem_of_getElem? (i := 1) rfl)
  have hf33 : (Cond.fieldLink RX2 33 "LoanSchedule$Loan" "paidSum" "I").before _ s9 = true := E.2.2.2.2 _ (List.mem_of_getElem? (i := 2) rfl)
  have hf21 : (Cond.fieldLink RX2 21 "LoanSchedule$Loan" "monthsLeft" "I").before _ s9 = true := E.2.2.2.2 _ (List.mem_of_getElem? (i := 3) rfl)
  have hf24 : (Cond.fieldLink RX2 24 "LoanSchedule$Loan" "installment" "I").before _ s9 = true := E.2.2.2.2 _ (List.mem_of_getElem? (i := 4) rfl)
  have hf27 : (Cond.fieldLink RX2 27 "LoanSchedule$Loan" "carry" "I").before _ s9 = true := E.2.2.2.2 _ (List.mem_of_getElem? (i := 5) rfl)
  refine lv_aload_n Ex Eb dX2_takeOff_0 rfl (lv_at hl 0 rfl) ?_
  refine lv_dup Ex Eb dX2_takeOff_1 rfl ?_
  refine lo_get E hK hw huRX2 1 hf15 rfl 0 rfl rfl (by decide) (v := .int (iI (L 1))) rfl dX2_takeOff_2 ?_
  refine lv_iload_n Ex Eb dX2_takeOff_5 rfl (lv_at hl 1 rfl) ?_
  refine lo_isub E dX2_takeOff_6 ?_
  refine lo_put E hK hw huRX2 tyX2 tyX2_ok nmX2 1 hf15 rfl 0 rfl rfl (by decide) rfl rfl rfl rfl (Nat.le_of_ble_eq_true rfl) (ws' := [oX2 h (L 0) ((L 1) - a) (L 2) (L 3) (L 4) (L 5) (L 6) (L 7) (L 8) (L 9)]) rfl dX2_takeOff_7 (fun H locs hw => ?_)
  refine lv_aload_n Ex Eb dX2_takeOff_10 rfl (lv_at hl 0 rfl) ?_
  refine lv_dup Ex Eb dX2_takeOff_11 rfl ?_
  refine lo_get E hK hw huRX2 7 hf33 rfl 0 rfl rfl (by decide) (v := .int (iI (L 7))) rfl dX2_takeOff_12 ?_
  refine lv_iload_n Ex Eb dX2_takeOff_15 rfl (lv_at hl 1 rfl) ?_
  refine lo_iadd E dX2_takeOff_16 ?_
  refine lo_put E hK hw huRX2 tyX2 tyX2_ok nmX2 7 hf33 rfl 0 rfl rfl (by decide) rfl rfl rfl rfl (Nat.le_of_ble_eq_true rfl) (ws' := [oX2 h (L 0) ((L 1) - a) (L 2) (L 3) (L 4) (L 5) (L 6) ((L 7) + a) (L 8) (L 9)]) rfl dX2_takeOff_17 (fun H locs hw => ?_)
  refine lv_aload_n Ex Eb dX2_takeOff_20 rfl (lv_at hl 0 rfl) ?_
  refine lo_get E hK hw huRX2 1 hf15 rfl 0 rfl rfl (by decide) (v := .int (iI ((L 1) - a))) rfl dX2_takeOff_21 ?_
  refine lo_if_ne (tgt := 42) E dX2_takeOff_24 (by decide) (by omega) (fun c1 => ?_) (fun c1 => ?_)
  · skip
    exact lo_vret E hRt hLk hK hAe hw dX2_takeOff_42 rfl ⟨rfl, by first | (simp only [fz_0 (show (L 1) - a = 0 by omega)]) | (simp only [fz_n (show (L 1) - a ≠ 0 by omega)])⟩
  · skip
    refine lv_aload_n Ex Eb dX2_takeOff_27 rfl (lv_at hl 0 rfl) ?_
    refine lv_iconst (v := iI 0) Ex Eb dX2_takeOff_28 rfl ?_
    refine lo_put E hK hw huRX2 tyX2 tyX2_ok nmX2 3 hf21 rfl 0 rfl rfl (by decide) rfl rfl rfl rfl (Nat.le_of_ble_eq_true rfl) (ws' := [oX2 h (L 0) ((L 1) - a) (L 2) 0 (L 4) (L 5) (L 6) ((L 7) + a) (L 8) (L 9)]) rfl dX2_takeOff_29 (fun H locs hw => ?_)
    refine lv_aload_n Ex Eb dX2_takeOff_32 rfl (lv_at hl 0 rfl) ?_
    refine lv_iconst (v := iI 0) Ex Eb dX2_takeOff_33 rfl ?_
    refine lo_put E hK hw huRX2 tyX2 tyX2_ok nmX2 4 hf24 rfl 0 rfl rfl (by decide) rfl rfl rfl rfl (Nat.le_of_ble_eq_true rfl) (ws' := [oX2 h (L 0) ((L 1) - a) (L 2) 0 0 (L 5) (L 6) ((L 7) + a) (L 8) (L 9)]) rfl dX2_takeOff_34 (fun H locs hw => ?_)
    refine lv_aload_n Ex Eb dX2_takeOff_37 rfl (lv_at hl 0 rfl) ?_
    refine lv_iconst (v := iI 0) Ex Eb dX2_takeOff_38 rfl ?_
    refine lo_put E hK hw huRX2 tyX2 tyX2_ok nmX2 5 hf27 rfl 0 rfl rfl (by decide) rfl rfl rfl rfl (Nat.le_of_ble_eq_true rfl) (ws' := [oX2 h (L 0) ((L 1) - a) (L 2) 0 0 0 (L 6) ((L 7) + a) (L 8) (L 9)]) rfl dX2_takeOff_39 (fun H locs hw => ?_)
    exact lo_vret E hRt hLk hK hAe hw dX2_takeOff_42 rfl ⟨rfl, by first | (simp only [fz_0 (show (L 1) - a = 0 by omega)]) | (simp only [fz_n (show (L 1) - a ≠ 0 by omega)])⟩
set_option maxHeartbeats 4000000 in
set_option maxRecDepth 100000 in
theorem kX2_settleMonth (l : Launch) (X : KX) (h : Nat) (L : Nat → Int) (hb0 : 0 ≤ (L 1)) (hb1 : (L 1) ≤ 9999999) (hr0 : 0 ≤ (L 2)) (hr1 : (L 2) ≤ 3000) (hc0 : 0 ≤ (L 5)) (hc1 : (L 5) < 120000) (hi : i32 (L 4) ∧ 0 ≤ (L 4)) (hm : i32 (L 3)) : CM l X yX2_settleMonth wsX2_settleMonth ({ frames := 1, cells := 0, slots := 0, locals := 23 }) [.ref h] ([oX2 h (L 0) (L 1) (L 2) (L 3) (L 4) (L 5) (L 6) (L 7) (L 8) (L 9)]) (fun v9 w9 => v9 = some (.int (iI (dueL L))) ∧ w9 = [oX2 h (payL L 0) (payL L 1) (payL L 2) (payL L 3) (payL L 4) (payL L 5) (payL L 6) (payL L 7) (payL L 8) (payL L 9)]) 0 0 := by
  refine lo_enter (cc := cX2_settleMonth) (maxL := 2) (ret := (some .int)) (lv := [(0, .ref h)]) (by decide) rfl rfl (Nat.le_of_ble_eq_true rfl) ?_
  intro p9 e9 s9 m9 bl9 me9 c9 A9 ls hAe E hRt hLk hK hl hw
  have Ex := E.1
  have Eb := E.2.1
  have huRX2 : ∀ w ∈ u_ws RX2 TX2 10, w ∈ wsX2_settleMonth := by decide +kernel
  have hf15 : (Cond.fieldLink RX2 15 "LoanSchedule$Loan" "balance" "I").before _ s9 = true := E.2.2.2.2 _ (List.mem_of_getElem? (i := 1) rfl)
  have hf21 : (Cond.fieldLink RX2 21 "LoanSchedule$Loan" "monthsLeft" "I").before _ s9 = true := E.2.2.2.2 _ (List.mem_of_getElem? (i := 2) rfl)
  have hf36 : (Cond.fieldLink RX2 36 "LoanSchedule$Loan" "settledCount" "I").before _ s9 = true := E.2.2.2.2 _ (List.mem_of_getElem? (i := 3) rfl)
  have hmb := lo_mb hb0 hr0 hr1
  have hfi := fI_r hb0 hr0 hr1 hc0 hc1
  have hfc := fC_r (L 1) (L 2) (L 5)
  have hfd : fD (fW (L 1) (L 2) (L 5)) (L 4) (L 3) = fW (L 1) (L 2) (L 5) ∨ (fD (fW (L 1) (L 2) (L 5)) (L 4) (L 3) = (L 4) ∧ (L 4) < fW (L 1) (L 2) (L 5)) := by unfold fD; by_cases h : fW (L 1) (L 2) (L 5) ≤ (L 4) ∨ (L 3) = 1 <;> simp [h] <;> omega
  have hfw : fW (L 1) (L 2) (L 5) = (L 1) + fI (L 1) (L 2) (L 5) := rfl
  refine lv_aload_n Ex Eb dX2_settleMonth_0 rfl (lv_at hl 0 rfl) ?_
  refine lo_callV (q0 := 0) (rest := []) E hK hw (kX2_addInterest l X h L (by omega) (by omega) (by omega) (by omega) (by omega) (by omega)) (cwV 0 E.2.2.2.2 gX2_settleMonth_X2_addInterest rfl rfl rfl (by decide +kernel) ⟨Nat.le_of_ble_eq_true rfl, Nat.le_of_ble_eq_true rfl⟩) rfl rfl [0] rfl (by decide) hl.1 rfl rfl (Nat.le_of_ble_eq_true rfl) dX2_settleMonth_1 ⟨Nat.le_of_ble_eq_true rfl, Nat.le_of_ble_eq_true rfl⟩ (fun v w1 H locs hq hw => ?_)
  obtain ⟨rfl, rfl⟩ := hq
  have hw : lo_Wd X ([oX2 h (L 0) (fW (L 1) (L 2) (L 5)) (L 2) (L 3) (L 4) (fC (L 1) (L 2) (L 5)) ((L 6) + fI (L 1) (L 2) (L 5)) (L 7) (L 8) (L 9)]) A9 s9.heap H locs := hw
  refine W.eq (g2 := F0 m9 4 ls [.int (iI (fI (L 1) (L 2) (L 5)))]) rfl ?_
  refine lv_pop Ex Eb dX2_settleMonth_4 rfl ?_
  refine lv_aload_n Ex Eb dX2_settleMonth_5 rfl (lv_at hl 0 rfl) ?_
  refine lv_aload_n Ex Eb dX2_settleMonth_6 rfl (lv_at hl 0 rfl) ?_
  refine lo_get E hK hw huRX2 1 hf15 rfl 0 rfl rfl (by decide) (v := .int (iI (fW (L 1) (L 2) (L 5)))) rfl dX2_settleMonth_7 ?_
  refine lo_callV (q0 := 0) (rest := []) E hK hw (kX2_partDue l X h (lf (L 0) (fW (L 1) (L 2) (L 5)) (L 2) (L 3) (L 4) (fC (L 1) (L 2) (L 5)) ((L 6) + fI (L 1) (L 2) (L 5)) (L 7) (L 8) (L 9)) (fW (L 1) (L 2) (L 5)) (by omega) (show i32 (L 4) by omega) (show i32 (L 3) by omega)) (cwV 1 E.2.2.2.2 gX2_settleMonth_X2_partDue rfl rfl rfl (by decide +kernel) ⟨Nat.le_of_ble_eq_true rfl, Nat.le_of_ble_eq_true rfl⟩) rfl rfl [0] rfl (by decide) hl.1 rfl rfl (Nat.le_of_ble_eq_true rfl) dX2_settleMonth_10 ⟨Nat.le_of_ble_eq_true rfl, Nat.le_of_ble_eq_true rfl⟩ (fun v w1 H locs hq hw => ?_)
  obtain ⟨rfl, rfl⟩ := hq
  have hw : lo_Wd X ([oX2 h (L 0) (fW (L 1) (L 2) (L 5)) (L 2) (L 3) (L 4) (fC (L 1) (L 2) (L 5)) ((L 6) + fI (L 1) (L 2) (L 5)) (L 7) (L 8) (L 9)]) A9 s9.heap H locs := hw
  refine W.eq (g2 := F0 m9 13 ls [.int (iI (fD (fW (L 1) (L 2) (L 5)) (L 4) (L 3)))]) rfl ?_
  refine lv_istore_n (lv' := [(1, .int (iI (fD (fW (L 1) (L 2) (L 5)) (L 4) (L 3)))), (0, .ref h)]) Ex Eb dX2_settleMonth_13 rfl hl (by decide) rfl (fun ls hl => ?_)
  refine lv_aload_n Ex Eb dX2_settleMonth_14 rfl (lv_at hl 1 rfl) ?_
  refine lv_dup Ex Eb dX2_settleMonth_15 rfl ?_
  refine lo_get E hK hw huRX2 3 hf21 rfl 0 rfl rfl (by decide) (v := .int (iI (L 3))) rfl dX2_settleMonth_16 ?_
  refine lv_iconst (v := iI 1) Ex Eb dX2_settleMonth_19 rfl ?_
  refine lo_isub E dX2_settleMonth_20 ?_
  refine lo_put E hK hw huRX2 tyX2 tyX2_ok nmX2 3 hf21 rfl 0 rfl rfl (by decide) rfl rfl rfl rfl (Nat.le_of_ble_eq_true rfl) (ws' := [oX2 h (L 0) (fW (L 1) (L 2) (L 5)) (L 2) ((L 3) - 1) (L 4) (fC (L 1) (L 2) (L 5)) ((L 6) + fI (L 1) (L 2) (L 5)) (L 7) (L 8) (L 9)]) rfl dX2_settleMonth_21 (fun H locs hw => ?_)
  refine lv_aload_n Ex Eb dX2_settleMonth_24 rfl (lv_at hl 1 rfl) ?_
  refine lv_dup Ex Eb dX2_settleMonth_25 rfl ?_
  refine lo_get E hK hw huRX2 8 hf36 rfl 0 rfl rfl (by decide) (v := .int (iI (L 8))) rfl dX2_settleMonth_26 ?_
  refine lv_iconst (v := iI 1) Ex Eb dX2_settleMonth_29 rfl ?_
  refine lo_iadd E dX2_settleMonth_30 ?_
  refine lo_put E hK hw huRX2 tyX2 tyX2_ok nmX2 8 hf36 rfl 0 rfl rfl (by decide) rfl rfl rfl rfl (Nat.le_of_ble_eq_true rfl) (ws' := [oX2 h (L 0) (fW (L 1) (L 2) (L 5)) (L 2) ((L 3) - 1) (L 4) (fC (L 1) (L 2) (L 5)) ((L 6) + fI (L 1) (L 2) (L 5)) (L 7) ((L 8) + 1) (L 9)]) rfl dX2_settleMonth_31 (fun H locs hw => ?_)
  refine lv_aload_n Ex Eb dX2_settleMonth_34 rfl (lv_at hl 1 rfl) ?_
  refine lv_iload_n Ex Eb dX2_settleMonth_35 rfl (lv_at hl 0 rfl) ?_
  refine lo_callV (q0 := 0) (rest := []) E hK hw (kX2_takeOff l X h (lf (L 0) (fW (L 1) (L 2) (L 5)) (L 2) ((L 3) - 1) (L 4) (fC (L 1) (L 2) (L 5)) ((L 6) + fI (L 1) (L 2) (L 5)) (L 7) ((L 8) + 1) (L 9)) (fD (fW (L 1) (L 2) (L 5)) (L 4) (L 3)) (show i32 ((fW (L 1) (L 2) (L 5)) - (fD (fW (L 1) (L 2) (L 5)) (L 4) (L 3))) by omega)) (cwV 1 E.2.2.2.2 gX2_settleMonth_X2_takeOff rfl rfl rfl (by decide +kernel) ⟨Nat.le_of_ble_eq_true rfl, Nat.le_of_ble_eq_true rfl⟩) rfl rfl [0] rfl (by decide) hl.1 rfl rfl (Nat.le_of_ble_eq_true rfl) dX2_settleMonth_36 ⟨Nat.le_of_ble_eq_true rfl, Nat.le_of_ble_eq_true rfl⟩ (fun v w1 H locs hq hw => ?_)
  obtain ⟨rfl, rfl⟩ := hq
  have hw : lo_Wd X ([oX2 h (L 0) ((fW (L 1) (L 2) (L 5)) - (fD (fW (L 1) (L 2) (L 5)) (L 4) (L 3))) (L 2) (fz ((fW (L 1) (L 2) (L 5)) - (fD (fW (L 1) (L 2) (L 5)) (L 4) (L 3))) ((L 3) - 1)) (fz ((fW (L 1) (L 2) (L 5)) - (fD (fW (L 1) (L 2) (L 5)) (L 4) (L 3))) (L 4)) (fz ((fW (L 1) (L 2) (L 5)) - (fD (fW (L 1) (L 2) (L 5)) (L 4) (L 3))) (fC (L 1) (L 2) (L 5))) ((L 6) + fI (L 1) (L 2) (L 5)) ((L 7) + (fD (fW (L 1) (L 2) (L 5)) (L 4) (L 3))) ((L 8) + 1) (L 9)]) A9 s9.heap H locs := hw
  refine W.eq (g2 := F0 m9 39 ls []) rfl ?_
  refine lv_iload_n Ex Eb dX2_settleMonth_39 rfl (lv_at hl 0 rfl) ?_
  exact lo_iret E hRt hLk hK hAe hw dX2_settleMonth_40 rfl ⟨rfl, rfl⟩
set_option maxHeartbeats 4000000 in
set_option maxRecDepth 100000 in
theorem kX2_termFor (l : Launch) (X : KX) (h : Nat) (L : Nat → Int) (am most : Int) (hb0 : 0 ≤ (L 1)) (hb1 : (L 1) ≤ 9999999) (hr0 : 0 ≤ (L 2)) (hr1 : (L 2) ≤ 3000) (hc0 : 0 ≤ (L 5)) (hc1 : (L 5) < 120000) (ham : 0 ≤ am ∧ am ≤ 2000000000) (hmo : 0 ≤ most ∧ most ≤ 120) : CM l X yX2_termFor wsX2_termFor ({ frames := 0, cells := 0, slots := 0, locals := 0 }) [.ref h, .int (iI am), .int (iI most)] ([oX2 h (L 0) (L 1) (L 2) (L 3) (L 4) (L 5) (L 6) (L 7) (L 8) (L 9)]) (fun v9 w9 => v9 = some (.int (iI (trm (L 2) am most.toNat 1 (L 1) (L 5)))) ∧ w9 = [oX2 h (L 0) (L 1) (L 2) (L 3) (L 4) (L 5) (L 6) (L 7) (L 8) (L 9)]) 0 0 := by
  refine lo_enter (cc := cX2_termFor) (maxL := 12) (ret := (some .int)) (lv := [(0, .ref h), (1, .int (iI am)), (2, .int (iI most))]) (by decide) rfl rfl (Nat.le_of_ble_eq_true rfl) ?_
  intro p9 e9 s9 m9 bl9 me9 c9 A9 ls hAe E hRt hLk hK hl hw
  have Ex := E.1
  have Eb := E.2.1
  have huRX2 : ∀ w ∈ u_ws RX2 TX2 10, w ∈ wsX2_termFor := by decide +kernel
  have hf15 : (Cond.fieldLink RX2 15 "LoanSchedule$Loan" "balance" "I").before _ s9 = true := E.2.2.2.2 _ (List.mem_of_getElem? (i := 1) rfl)
  have hf27 : (Cond.fieldLink RX2 27 "LoanSchedule$Loan" "carry" "I").before _ s9 = true := E.2.2.2.2 _ (List.mem_of_getElem? (i := 2) rfl)
  have hf18 : (Cond.fieldLink RX2 18 "LoanSchedule$Loan" "rate" "I").before _ s9 = true := E.2.2.2.2 _ (List.mem_of_getElem? (i := 3) rfl)
  have hc51 : (Cond.constantLong RX2 51 (120000)).before _ s9 = true := E.2.2.2.2 _ (List.mem_of_getElem? (i := 4) rfl)
  refine lv_aload_n Ex Eb dX2_termFor_0 rfl (lv_at hl 0 rfl) ?_
  refine lo_get E hK hw huRX2 1 hf15 rfl 0 rfl rfl (by decide) (v := .int (iI (L 1))) rfl dX2_termFor_1 ?_
  refine lo_i2l E dX2_termFor_4 (by omega) ?_
  refine lv_lstore_n (lv' := [(3, .long (iL (L 1))), (0, .ref h), (1, .int (iI am)), (2, .int (iI most))]) Ex Eb dX2_termFor_5 rfl hl (by decide) rfl (fun ls hl => ?_)
  refine lv_aload_n Ex Eb dX2_termFor_6 rfl (lv_at hl 1 rfl) ?_
  refine lo_get E hK hw huRX2 5 hf27 rfl 0 rfl rfl (by decide) (v := .int (iI (L 5))) rfl dX2_termFor_7 ?_
  refine lo_i2l E dX2_termFor_10 (by omega) ?_
  refine lv_lstore (lv' := [(5, .long (iL (L 5))), (3, .long (iL (L 1))), (0, .ref h), (1, .int (iI am)), (2, .int (iI most))]) Ex Eb dX2_termFor_11 hl (by decide) rfl (fun ls hl => ?_)
  refine lv_iconst (v := iI 1) Ex Eb dX2_termFor_13 rfl ?_
  refine lv_istore (lv' := [(7, .int (iI 1)), (5, .long (iL (L 5))), (3, .long (iL (L 1))), (0, .ref h), (1, .int (iI am)), (2, .int (iI most))]) Ex Eb dX2_termFor_14 hl (by decide) rfl (fun ls hl => ?_)
  have lp16 : ∀ (n : Nat) (rest left mo : Int), (most + 1 - mo).toNat < n → (1 ≤ mo ∧ mo ≤ most + 1) → (0 ≤ rest) → (rest ≤ gb (mo - 1).toNat) → (0 ≤ left ∧ left < 120000) → (trm (L 2) am (most + 1 - mo).toNat mo rest left = trm (L 2) am most.toNat 1 (L 1) (L 5)) → ∀ (H : Heap) (locs : List Loc) (ls : Array Slot), lo_Wd X ([oX2 h (L 0) (L 1) (L 2) (L 3) (L 4) (L 5) (L 6) (L 7) (L 8) (L 9)]) A9 s9.heap H locs → lv_has ls 12 [(0, .ref h), (1, .int (iI am)), (2, .int (iI most)), (3, .long (iL rest)), (5, .long (iL left)), (7, .int (iI mo))] → W p9 l e9 ({ frames := 0, cells := 0, slots := 0, locals := 0 } : Room) s9 m9 ([.ref h, .int (iI am), .int (iI most)] : List Value).toArray bl9 me9 c9 H locs 0 0 (MQ bl9 (lo_Qc X ([oX2 h (L 0) (L 1) (L 2) (L 3) (L 4) (L 5) (L 6) (L 7) (L 8) (L 9)]) s9.heap.size (fun v9 w9 => v9 = some (.int (iI (trm (L 2) am most.toNat 1 (L 1) (L 5)))) ∧ w9 = [oX2 h (L 0) (L 1) (L 2) (L 3) (L 4) (L 5) (L 6) (L 7) (L 8) (L 9)])) ([.ref h, .int (iI am), .int (iI most)] : List Value).toArray s9 0 0 A9) (F0 m9 16 ls []) := by
    intro n
    induction n with
    | zero => intro rest left mo hn; exact absurd hn (Nat.not_lt_zero _)
    | succ n ih16 =>
      intro rest left mo hn16 iv16_0 iv16_1 iv16_2 iv16_3 iv16_4 H locs ls hw hl
      have hgb := gb_big (mo - 1).toNat (by omega)
      have hmb := lo_mb iv16_1 hr0 hr1
      have hfi := fI_r iv16_1 hr0 hr1 iv16_3.1 iv16_3.2
      have hfc := fC_r rest (L 2) left
      refine lv_iload Ex Eb dX2_termFor_16 (lv_at hl 5 rfl) ?_
      refine lv_iload_n Ex Eb dX2_termFor_18 rfl (lv_at hl 2 rfl) ?_
      refine lo_icmp_gt (tgt := 75) E dX2_termFor_19 (by decide) (by omega) (by omega) (fun c1 => ?_) (fun c1 => ?_)
      · skip
        refine lv_iconst (v := iI (-1)) Ex Eb dX2_termFor_75 rfl ?_
        exact lo_iret E hRt hLk hK hAe hw dX2_termFor_76 rfl ⟨by rw [← iv16_4, show (most + 1 - mo).toNat = 0 by omega]; rfl, rfl⟩
      · skip
        refine lv_lload_n Ex Eb dX2_termFor_22 rfl (lv_at hl 3 rfl) ?_
        refine lv_aload_n Ex Eb dX2_termFor_23 rfl (lv_at hl 0 rfl) ?_
        refine lo_get E hK hw huRX2 2 hf18 rfl 0 rfl rfl (by decide) (v := .int (iI (L 2))) rfl dX2_termFor_24 ?_
        refine lo_i2l E dX2_termFor_27 (by omega) ?_
        refine lo_lmul E dX2_termFor_28 ?_
        refine lv_lload Ex Eb dX2_termFor_29 (lv_at hl 4 rfl) ?_
        refine lo_ladd E dX2_termFor_31 ?_
        refine lo_topl (fun sc e_sc => ?_)
        refine lv_lstore (lv' := [(8, .long (iL sc)), (0, .ref h), (1, .int (iI am)), (2, .int (iI most)), (3, .long (iL rest)), (5, .long (iL left)), (7, .int (iI mo))]) Ex Eb dX2_termFor_32 hl (by decide) rfl (fun ls hl => ?_)
        refine lv_lload_n Ex Eb dX2_termFor_34 rfl (lv_at hl 4 rfl) ?_
        refine lv_lload Ex Eb dX2_termFor_35 (lv_at hl 0 rfl) ?_
        refine lo_ldc2 (z := 120000) E hc51 dX2_termFor_37 rfl ?_
        refine lo_ldiv E dX2_termFor_40 (by omega) (by omega) ?_
        refine lo_ladd E dX2_termFor_41 ?_
        refine lo_topl (fun wh e_wh => ?_)
        refine lv_lstore (lv' := [(10, .long (iL wh)), (8, .long (iL sc)), (0, .ref h), (1, .int (iI am)), (2, .int (iI most)), (3, .long (iL rest)), (5, .long (iL left)), (7, .int (iI mo))]) Ex Eb dX2_termFor_42 hl (by decide) rfl (fun ls hl => ?_)
        have hwh : wh = fW rest (L 2) left := by rw [e_wh, e_sc]; rfl
        refine lv_lload Ex Eb dX2_termFor_44 (lv_at hl 0 rfl) ?_
        refine lv_iload_n Ex Eb dX2_termFor_46 rfl (lv_at hl 3 rfl) ?_
        refine lo_i2l E dX2_termFor_47 (by omega) ?_
        refine lo_lcmp E dX2_termFor_48 (by omega) (by omega) (fun zc2 rzc2 dzc2 => ?_)
        refine lo_if_gt (tgt := 55) E dX2_termFor_49 (by decide) (by omega) (fun c3 => ?_) (fun c3 => ?_)
        · skip
          refine lv_lload Ex Eb dX2_termFor_55 (lv_at hl 0 rfl) ?_
          refine lv_iload_n Ex Eb dX2_termFor_57 rfl (lv_at hl 3 rfl) ?_
          refine lo_i2l E dX2_termFor_58 (by omega) ?_
          refine lo_lsub E dX2_termFor_59 ?_
          refine lv_lstore_n (lv' := [(3, .long (iL (wh - am))), (10, .long (iL wh)), (8, .long (iL sc)), (0, .ref h), (1, .int (iI am)), (2, .int (iI most)), (5, .long (iL left)), (7, .int (iI mo))]) Ex Eb dX2_termFor_60 rfl hl (by decide) rfl (fun ls hl => ?_)
          refine lv_lload Ex Eb dX2_termFor_61 (lv_at hl 2 rfl) ?_
          refine lo_ldc2 (z := 120000) E hc51 dX2_termFor_63 rfl ?_
          refine lo_lrem E dX2_termFor_66 (by omega) (by omega) ?_
          refine lv_lstore (lv' := [(5, .long (iL (sc % 120000))), (3, .long (iL (wh - am))), (10, .long (iL wh)), (8, .long (iL sc)), (0, .ref h), (1, .int (iI am)), (2, .int (iI most)), (7, .int (iI mo))]) Ex Eb dX2_termFor_67 hl (by decide) rfl (fun ls hl => ?_)
          refine lo_iinc (lv' := [(7, .int (iI (mo + 1))), (5, .long (iL (sc % 120000))), (3, .long (iL (wh - am))), (10, .long (iL wh)), (8, .long (iL sc)), (0, .ref h), (1, .int (iI am)), (2, .int (iI most))]) E dX2_termFor_69 hl (k := 7) rfl (by decide) rfl (fun ls hl => ?_)
          refine lv_goto (tgt := 16) Ex Eb dX2_termFor_72 (by decide) ?_
          have hfw : fW rest (L 2) left = rest + fI rest (L 2) left := rfl
          have hge : gb (mo + 1 - 1).toNat = gb (mo - 1).toNat + gb (mo - 1).toNat / 40 + 2 := by rw [show (mo + 1 - 1).toNat = (mo - 1).toNat + 1 by omega, gb_s]
          have hsc : sc % 120000 = fC rest (L 2) left := by rw [e_sc]; rfl
          exact ih16 (wh - am) (sc % 120000) (mo + 1) (by omega) (by omega) (by omega) (by omega) (by omega) (by rw [← iv16_4, show (most + 1 - mo).toNat = (most + 1 - (mo + 1)).toNat + 1 by omega, trm_go (show am < fW rest (L 2) left by omega), hwh, hsc]) _ _ _ hw (lv_sub hl [5, 6, 7, 2, 1, 0] rfl)
        · skip
          refine lv_iload Ex Eb dX2_termFor_52 (lv_at hl 7 rfl) ?_
          exact lo_iret E hRt hLk hK hAe hw dX2_termFor_54 rfl ⟨by rw [← iv16_4, show (most + 1 - mo).toNat = (most - mo).toNat + 1 by omega, trm_hit (show fW rest (L 2) left ≤ am by omega)], rfl⟩
  exact lp16 _ (L 1) (L 5) 1 (Nat.lt_succ_self _) (by omega) (by omega) (by show (L 1) ≤ gb 0; have : gb 0 = 10000000 := rfl; omega) (by omega) (by rw [show most + 1 - 1 = most by omega]) _ _ _ hw (lv_sub hl [3, 4, 5, 2, 1, 0] rfl)
set_option maxHeartbeats 4000000 in
set_option maxRecDepth 100000 in
theorem kX2_levelFor (l : Launch) (X : KX) (h : Nat) (L : Nat → Int) (mo : Int) (hb0 : 0 ≤ (L 1)) (hb1 : (L 1) ≤ 9999999) (hr0 : 0 ≤ (L 2)) (hr1 : (L 2) ≤ 3000) (hc0 : 0 ≤ (L 5)) (hc1 : (L 5) < 120000) (hmo : 0 ≤ mo ∧ mo ≤ 120) : CM l X yX2_levelFor wsX2_levelFor ({ frames := 1, cells := 0, slots := 0, locals := 31 }) [.ref h, .int (iI mo)] ([oX2 h (L 0) (L 1) (L 2) (L 3) (L 4) (L 5) (L 6) (L 7) (L 8) (L 9)]) (fun v9 w9 => v9 = some (.int (iI (lvl (L 1) (L 2) (L 5) mo))) ∧ w9 = [oX2 h (L 0) (L 1) (L 2) (L 3) (L 4) (L 5) (L 6) (L 7) (L 8) (L 9)]) 0 0 := by
  refine lo_enter (cc := cX2_levelFor) (maxL := 6) (ret := (some .int)) (lv := [(0, .ref h), (1, .int (iI mo))]) (by decide) rfl rfl (Nat.le_of_ble_eq_true rfl) ?_
  intro p9 e9 s9 m9 bl9 me9 c9 A9 ls hAe E hRt hLk hK hl hw
  have Ex := E.1
  have Eb := E.2.1
  have huRX2 : ∀ w ∈ u_ws RX2 TX2 10, w ∈ wsX2_levelFor := by decide +kernel
  have hf15 : (Cond.fieldLink RX2 15 "LoanSchedule$Loan" "balance" "I").before _ s9 = true := E.2.2.2.2 _ (List.mem_of_getElem? (i := 1) rfl)
  have hmb := lo_mb hb0 hr0 hr1
  have hfi := fI_r hb0 hr0 hr1 hc0 hc1
  have hfc := fC_r (L 1) (L 2) (L 5)
  have hfw : fW (L 1) (L 2) (L 5) = (L 1) + fI (L 1) (L 2) (L 5) := rfl
  refine lv_iconst (v := iI 1) Ex Eb dX2_levelFor_0 rfl ?_
  refine lv_istore_n (lv' := [(2, .int (iI 1)), (0, .ref h), (1, .int (iI mo))]) Ex Eb dX2_levelFor_1 rfl hl (by decide) rfl (fun ls hl => ?_)
  refine lv_aload_n Ex Eb dX2_levelFor_2 rfl (lv_at hl 1 rfl) ?_
  refine lo_get E hK hw huRX2 1 hf15 rfl 0 rfl rfl (by decide) (v := .int (iI (L 1))) rfl dX2_levelFor_3 ?_
  refine lv_aload_n Ex Eb dX2_levelFor_6 rfl (lv_at hl 1 rfl) ?_
  refine lo_callV (q0 := 0) (rest := [.int (iI (L 1))]) E hK hw (kX2_nextInterest l X h L (by omega) (by omega) (by omega) (by omega) (by omega) (by omega)) (cwV 0 E.2.2.2.2 gX2_levelFor_X2_nextInterest rfl rfl rfl (by decide +kernel) ⟨Nat.le_of_ble_eq_true rfl, Nat.le_of_ble_eq_true rfl⟩) rfl rfl [0] rfl (by decide) hl.1 rfl rfl (Nat.le_of_ble_eq_true rfl) dX2_levelFor_7 ⟨Nat.le_of_ble_eq_true rfl, Nat.le_of_ble_eq_true rfl⟩ (fun v w1 H locs hq hw => ?_)
  obtain ⟨rfl, rfl⟩ := hq
  have hw : lo_Wd X ([oX2 h (L 0) (L 1) (L 2) (L 3) (L 4) (L 5) (L 6) (L 7) (L 8) (L 9)]) A9 s9.heap H locs := hw
  refine W.eq (g2 := F0 m9 10 ls [.int (iI (fI (L 1) (L 2) (L 5))), .int (iI (L 1))]) rfl ?_
  refine lo_iadd E dX2_levelFor_10 ?_
  refine lv_istore_n (lv' := [(3, .int (iI ((L 1) + fI (L 1) (L 2) (L 5)))), (2, .int (iI 1)), (0, .ref h), (1, .int (iI mo))]) Ex Eb dX2_levelFor_11 rfl hl (by decide) rfl (fun ls hl => ?_)
  refine lv_iconst (v := iI 0) Ex Eb dX2_levelFor_12 rfl ?_
  refine lv_istore (lv' := [(4, .int (iI 0)), (3, .int (iI ((L 1) + fI (L 1) (L 2) (L 5)))), (2, .int (iI 1)), (0, .ref h), (1, .int (iI mo))]) Ex Eb dX2_levelFor_13 hl (by decide) rfl (fun ls hl => ?_)
  have lp15 : ∀ (n : Nat) (lo hi ix : Int), (32 - ix).toNat < n → (0 ≤ ix ∧ ix ≤ 32) → (1 ≤ lo) → (0 ≤ hi ∧ lo ≤ 20000001 ∧ hi ≤ 20000000) → (bsr (L 2) mo (L 1) (L 5) (32 - ix).toNat lo hi = lvl (L 1) (L 2) (L 5) mo) → ∀ (H : Heap) (locs : List Loc) (ls : Array Slot), lo_Wd X ([oX2 h (L 0) (L 1) (L 2) (L 3) (L 4) (L 5) (L 6) (L 7) (L 8) (L 9)]) A9 s9.heap H locs → lv_has ls 6 [(0, .ref h), (1, .int (iI mo)), (2, .int (iI lo)), (3, .int (iI hi)), (4, .int (iI ix))] → W p9 l e9 ({ frames := 1, cells := 0, slots := 0, locals := 31 } : Room) s9 m9 ([.ref h, .int (iI mo)] : List Value).toArray bl9 me9 c9 H locs 0 0 (MQ bl9 (lo_Qc X ([oX2 h (L 0) (L 1) (L 2) (L 3) (L 4) (L 5) (L 6) (L 7) (L 8) (L 9)]) s9.heap.size (fun v9 w9 => v9 = some (.int (iI (lvl (L 1) (L 2) (L 5) mo))) ∧ w9 = [oX2 h (L 0) (L 1) (L 2) (L 3) (L 4) (L 5) (L 6) (L 7) (L 8) (L 9)])) ([.ref h, .int (iI mo)] : List Value).toArray s9 0 0 A9) (F0 m9 15 ls []) := by
    intro n
    induction n with
    | zero => intro lo hi ix hn; exact absurd hn (Nat.not_lt_zero _)
    | succ n ih15 =>
      intro lo hi ix hn15 iv15_0 iv15_1 iv15_2 iv15_3 H locs ls hw hl
      refine lv_iload Ex Eb dX2_levelFor_15 (lv_at hl 4 rfl) ?_
      refine lv_bipush (v := iI 32) Ex Eb dX2_levelFor_17 rfl ?_
      refine lo_icmp_ge (tgt := 62) E dX2_levelFor_19 (by decide) (by omega) (by omega) (fun c1 => ?_) (fun c1 => ?_)
      · skip
        refine lv_iload_n Ex Eb dX2_levelFor_62 rfl (lv_at hl 2 rfl) ?_
        exact lo_iret E hRt hLk hK hAe hw dX2_levelFor_63 rfl ⟨by rw [← iv15_3]; first | (rw [bsr_end _ (by omega)]) | (rw [show (32 - ix).toNat = 0 by omega]; rfl), rfl⟩
      · skip
        refine lv_iload_n Ex Eb dX2_levelFor_22 rfl (lv_at hl 2 rfl) ?_
        refine lv_iload_n Ex Eb dX2_levelFor_23 rfl (lv_at hl 3 rfl) ?_
        refine lo_icmp_ge (tgt := 62) E dX2_levelFor_24 (by decide) (by omega) (by omega) (fun c2 => ?_) (fun c2 => ?_)
        · skip
          refine lv_iload_n Ex Eb dX2_levelFor_62 rfl (lv_at hl 2 rfl) ?_
          exact lo_iret E hRt hLk hK hAe hw dX2_levelFor_63 rfl ⟨by rw [← iv15_3]; first | (rw [bsr_end _ (by omega)]) | (rw [show (32 - ix).toNat = 0 by omega]; rfl), rfl⟩
        · skip
          refine lv_iload_n Ex Eb dX2_levelFor_27 rfl (lv_at hl 2 rfl) ?_
          refine lv_iload_n Ex Eb dX2_levelFor_28 rfl (lv_at hl 3 rfl) ?_
          refine lo_iadd E dX2_levelFor_29 ?_
          refine lv_iconst (v := iI 2) Ex Eb dX2_levelFor_30 rfl ?_
          refine lo_idiv E dX2_levelFor_31 (by omega) (by omega) ?_
          refine lv_istore (lv' := [(5, .int (iI ((lo + hi) / 2))), (0, .ref h), (1, .int (iI mo)), (2, .int (iI lo)), (3, .int (iI hi)), (4, .int (iI ix))]) Ex Eb dX2_levelFor_32 hl (by decide) rfl (fun ls hl => ?_)
          refine lv_aload_n Ex Eb dX2_levelFor_34 rfl (lv_at hl 1 rfl) ?_
          refine lv_iload Ex Eb dX2_levelFor_35 (lv_at hl 0 rfl) ?_
          refine lv_iload_n Ex Eb dX2_levelFor_37 rfl (lv_at hl 2 rfl) ?_
          refine lo_callV (q0 := 0) (rest := []) E hK hw (kX2_termFor l X h L ((lo + hi) / 2) mo (by omega) (by omega) (by omega) (by omega) (by omega) (by omega) (by omega) (by omega)) (cwV 2 E.2.2.2.2 gX2_levelFor_X2_termFor rfl rfl rfl (by decide +kernel) ⟨Nat.le_of_ble_eq_true rfl, Nat.le_of_ble_eq_true rfl⟩) rfl rfl [0] rfl (by decide) hl.1 rfl rfl (Nat.le_of_ble_eq_true rfl) dX2_levelFor_38 ⟨Nat.le_of_ble_eq_true rfl, Nat.le_of_ble_eq_true rfl⟩ (fun v w1 H locs hq hw => ?_)
          obtain ⟨rfl, rfl⟩ := hq
          have hw : lo_Wd X ([oX2 h (L 0) (L 1) (L 2) (L 3) (L 4) (L 5) (L 6) (L 7) (L 8) (L 9)]) A9 s9.heap H locs := hw
          refine W.eq (g2 := F0 m9 41 ls [.int (iI (trm (L 2) ((lo + hi) / 2) mo.toNat 1 (L 1) (L 5)))]) rfl ?_
          refine lv_iconst (v := iI (-1)) Ex Eb dX2_levelFor_41 rfl ?_
          have ht := trm_r (L 2) ((lo + hi) / 2) mo.toNat 1 (L 1) (L 5)
          refine lo_icmp_ne (tgt := 53) E dX2_levelFor_42 (by decide) (by omega) (by omega) (fun c3 => ?_) (fun c3 => ?_)
          · skip
            refine lv_iload Ex Eb dX2_levelFor_53 (lv_at hl 0 rfl) ?_
            refine lv_istore_n (lv' := [(3, .int (iI ((lo + hi) / 2))), (5, .int (iI ((lo + hi) / 2))), (0, .ref h), (1, .int (iI mo)), (2, .int (iI lo)), (4, .int (iI ix))]) Ex Eb dX2_levelFor_55 rfl hl (by decide) rfl (fun ls hl => ?_)
            refine lo_iinc (lv' := [(4, .int (iI (ix + 1))), (3, .int (iI ((lo + hi) / 2))), (5, .int (iI ((lo + hi) / 2))), (0, .ref h), (1, .int (iI mo)), (2, .int (iI lo))]) E dX2_levelFor_56 hl (k := 5) rfl (by decide) rfl (fun ls hl => ?_)
            refine lv_goto (tgt := 15) Ex Eb dX2_levelFor_59 (by decide) ?_
            exact ih15 lo ((lo + hi) / 2) (ix + 1) (by omega) (by omega) (by omega) (by omega) (by rw [← iv15_3, show (32 - ix).toNat = (32 - (ix + 1)).toNat + 1 by omega]; first | (rw [bsr_up (by omega) (by omega)]) | (rw [bsr_dn (by omega) (by omega)])) _ _ _ hw (lv_sub hl [3, 4, 5, 1, 0] rfl)
          · skip
            refine lv_iload Ex Eb dX2_levelFor_45 (lv_at hl 0 rfl) ?_
            refine lv_iconst (v := iI 1) Ex Eb dX2_levelFor_47 rfl ?_
            refine lo_iadd E dX2_levelFor_48 ?_
            refine lv_istore_n (lv' := [(2, .int (iI (((lo + hi) / 2) + 1))), (5, .int (iI ((lo + hi) / 2))), (0, .ref h), (1, .int (iI mo)), (3, .int (iI hi)), (4, .int (iI ix))]) Ex Eb dX2_levelFor_49 rfl hl (by decide) rfl (fun ls hl => ?_)
            refine lv_goto (tgt := 56) Ex Eb dX2_levelFor_50 (by decide) ?_
            refine lo_iinc (lv' := [(4, .int (iI (ix + 1))), (2, .int (iI (((lo + hi) / 2) + 1))), (5, .int (iI ((lo + hi) / 2))), (0, .ref h), (1, .int (iI mo)), (3, .int (iI hi))]) E dX2_levelFor_56 hl (k := 5) rfl (by decide) rfl (fun ls hl => ?_)
            refine lv_goto (tgt := 15) Ex Eb dX2_levelFor_59 (by decide) ?_
            exact ih15 (((lo + hi) / 2) + 1) hi (ix + 1) (by omega) (by omega) (by omega) (by omega) (by rw [← iv15_3, show (32 - ix).toNat = (32 - (ix + 1)).toNat + 1 by omega]; first | (rw [bsr_up (by omega) (by omega)]) | (rw [bsr_dn (by omega) (by omega)])) _ _ _ hw (lv_sub hl [3, 4, 1, 5, 0] rfl)
  exact lp15 _ 1 ((L 1) + fI (L 1) (L 2) (L 5)) 0 (Nat.lt_succ_self _) (by omega) (by omega) (by show 0 ≤ fW (L 1) (L 2) (L 5) ∧ _ ∧ fW (L 1) (L 2) (L 5) ≤ _; omega) ((lvl_def _ _ _ _).symm) _ _ _ hw (lv_sub hl [3, 4, 2, 1, 0] rfl)
set_option maxHeartbeats 4000000 in
set_option maxRecDepth 100000 in
theorem kX2_settleMonths (l : Launch) (X : KX) (h : Nat) (L0 : Nat → Int) (most : Int) (hLI : LI L0) (hmo : 0 ≤ most ∧ most ≤ 1000) : CM l X yX2_settleMonths wsX2_settleMonths ({ frames := 2, cells := 0, slots := 0, locals := 44 }) [.ref h, .int (iI most)] ([oX2 h (L0 0) (L0 1) (L0 2) (L0 3) (L0 4) (L0 5) (L0 6) (L0 7) (L0 8) (L0 9)]) (fun v9 w9 => v9 = some (.int (iI (lastL most.toNat L0 0))) ∧ w9 = [oX2 h (runL most.toNat L0 0) (runL most.toNat L0 1) (runL most.toNat L0 2) (runL most.toNat L0 3) (runL most.toNat L0 4) (runL most.toNat L0 5) (runL most.toNat L0 6) (runL most.toNat L0 7) (runL most.toNat L0 8) (runL most.toNat L0 9)]) 0 0 := by
  refine lo_enter (cc := cX2_settleMonths) (maxL := 4) (ret := (some .int)) (lv := [(0, .ref h), (1, .int (iI most))]) (by decide) rfl rfl (Nat.le_of_ble_eq_true rfl) ?_
  intro p9 e9 s9 m9 bl9 me9 c9 A9 ls hAe E hRt hLk hK hl hw
  have Ex := E.1
  have Eb := E.2.1
  have huRX2 : ∀ w ∈ u_ws RX2 TX2 10, w ∈ wsX2_settleMonths := by decide +kernel
  have hf15 : (Cond.fieldLink RX2 15 "LoanSchedule$Loan" "balance" "I").before _ s9 = true := E.2.2.2.2 _ (List.mem_of_getElem? (i := 1) rfl)
  refine lv_iconst (v := iI 0) Ex Eb dX2_settleMonths_0 rfl ?_
  refine lv_istore_n (lv' := [(2, .int (iI 0)), (0, .ref h), (1, .int (iI most))]) Ex Eb dX2_settleMonths_1 rfl hl (by decide) rfl (fun ls hl => ?_)
  refine lv_iconst (v := iI 0) Ex Eb dX2_settleMonths_2 rfl ?_
  refine lv_istore_n (lv' := [(3, .int (iI 0)), (2, .int (iI 0)), (0, .ref h), (1, .int (iI most))]) Ex Eb dX2_settleMonths_3 rfl hl (by decide) rfl (fun ls hl => ?_)
  have lp4 : ∀ (n : Nat) (L : Nat → Int) (la ix : Int), (most - ix).toNat < n → (LI L) → (0 ≤ ix ∧ ix ≤ most) → (runL (most - ix).toNat L = runL most.toNat L0 ∧ lastL (most - ix).toNat L la = lastL most.toNat L0 0) → ∀ (H : Heap) (locs : List Loc) (ls : Array Slot), lo_Wd X ([oX2 h (L 0) (L 1) (L 2) (L 3) (L 4) (L 5) (L 6) (L 7) (L 8) (L 9)]) A9 s9.heap H locs → lv_has ls 4 [(0, .ref h), (1, .int (iI most)), (2, .int (iI la)), (3, .int (iI ix))] → W p9 l e9 ({ frames := 2, cells := 0, slots := 0, locals := 44 } : Room) s9 m9 ([.ref h, .int (iI most)] : List Value).toArray bl9 me9 c9 H locs 0 0 (MQ bl9 (lo_Qc X ([oX2 h (L0 0) (L0 1) (L0 2) (L0 3) (L0 4) (L0 5) (L0 6) (L0 7) (L0 8) (L0 9)]) s9.heap.size (fun v9 w9 => v9 = some (.int (iI (lastL most.toNat L0 0))) ∧ w9 = [oX2 h (runL most.toNat L0 0) (runL most.toNat L0 1) (runL most.toNat L0 2) (runL most.toNat L0 3) (runL most.toNat L0 4) (runL most.toNat L0 5) (runL most.toNat L0 6) (runL most.toNat L0 7) (runL most.toNat L0 8) (runL most.toNat L0 9)])) ([.ref h, .int (iI most)] : List Value).toArray s9 0 0 A9) (F0 m9 4 ls []) := by
    intro n
    induction n with
    | zero => intro L la ix hn; exact absurd hn (Nat.not_lt_zero _)
    | succ n ih4 =>
      intro L la ix hn4 iv4_0 iv4_1 iv4_2 H locs ls hw hl
      obtain ⟨⟨hb0, hb1⟩, ⟨hr0, hr1⟩, ⟨hc0, hc1⟩, ⟨hm0, hm1⟩, ⟨hi0, hi1⟩, ⟨hk0, hk1⟩, hop, hcl⟩ := id iv4_0
      refine lv_iload_n Ex Eb dX2_settleMonths_4 rfl (lv_at hl 3 rfl) ?_
      refine lv_iload_n Ex Eb dX2_settleMonths_5 rfl (lv_at hl 1 rfl) ?_
      refine lo_icmp_ge (tgt := 27) E dX2_settleMonths_6 (by decide) (by omega) (by omega) (fun c1 => ?_) (fun c1 => ?_)
      · skip
        refine lv_iload_n Ex Eb dX2_settleMonths_27 rfl (lv_at hl 2 rfl) ?_
        exact lo_iret E hRt hLk hK hAe hw dX2_settleMonths_28 rfl ⟨by rw [← iv4_2.2]; first | (rw [lastL_e (by omega)]) | (rw [show (most - ix).toNat = 0 by omega]; rfl), by rw [← iv4_2.1]; first | (rw [runL_e (by omega)]) | (rw [show (most - ix).toNat = 0 by omega]; rfl)⟩
      · skip
        refine lv_aload_n Ex Eb dX2_settleMonths_9 rfl (lv_at hl 0 rfl) ?_
        refine lo_get E hK hw huRX2 1 hf15 rfl 0 rfl rfl (by decide) (v := .int (iI (L 1))) rfl dX2_settleMonths_10 ?_
        refine lo_if_le (tgt := 27) E dX2_settleMonths_13 (by decide) (by omega) (fun c2 => ?_) (fun c2 => ?_)
        · skip
          refine lv_iload_n Ex Eb dX2_settleMonths_27 rfl (lv_at hl 2 rfl) ?_
          exact lo_iret E hRt hLk hK hAe hw dX2_settleMonths_28 rfl ⟨by rw [← iv4_2.2]; first | (rw [lastL_e (by omega)]) | (rw [show (most - ix).toNat = 0 by omega]; rfl), by rw [← iv4_2.1]; first | (rw [runL_e (by omega)]) | (rw [show (most - ix).toNat = 0 by omega]; rfl)⟩
        · skip
          refine lv_aload_n Ex Eb dX2_settleMonths_16 rfl (lv_at hl 0 rfl) ?_
          refine lo_callV (q0 := 0) (rest := []) E hK hw (kX2_settleMonth l X h L (by omega) (by omega) (by omega) (by omega) (by omega) (by omega) (by omega) (by omega)) (cwV 0 E.2.2.2.2 gX2_settleMonths_X2_settleMonth rfl rfl rfl (by decide +kernel) ⟨Nat.le_of_ble_eq_true rfl, Nat.le_of_ble_eq_true rfl⟩) rfl rfl [0] rfl (by decide) hl.1 rfl rfl (Nat.le_of_ble_eq_true rfl) dX2_settleMonths_17 ⟨Nat.le_of_ble_eq_true rfl, Nat.le_of_ble_eq_true rfl⟩ (fun v w1 H locs hq hw => ?_)
          obtain ⟨rfl, rfl⟩ := hq
          have hw : lo_Wd X ([oX2 h (payL L 0) (payL L 1) (payL L 2) (payL L 3) (payL L 4) (payL L 5) (payL L 6) (payL L 7) (payL L 8) (payL L 9)]) A9 s9.heap H locs := hw
          refine W.eq (g2 := F0 m9 20 ls [.int (iI (dueL L))]) rfl ?_
          refine lv_istore_n (lv' := [(2, .int (iI (dueL L))), (0, .ref h), (1, .int (iI most)), (3, .int (iI ix))]) Ex Eb dX2_settleMonths_20 rfl hl (by decide) rfl (fun ls hl => ?_)
          refine lo_iinc (lv' := [(3, .int (iI (ix + 1))), (2, .int (iI (dueL L))), (0, .ref h), (1, .int (iI most))]) E dX2_settleMonths_21 hl (k := 3) rfl (by decide) rfl (fun ls hl => ?_)
          refine lv_goto (tgt := 4) Ex Eb dX2_settleMonths_24 (by decide) ?_
          exact ih4 (payL L) (dueL L) (ix + 1) (by omega) (by exact payL_LI iv4_0 (by omega)) (by omega) (by rw [← iv4_2.1, ← iv4_2.2, show (most - ix).toNat = (most - (ix + 1)).toNat + 1 by omega, runL_s (by omega), lastL_s (by omega)]; exact ⟨rfl, rfl⟩) _ _ _ hw (lv_sub hl [2, 3, 1, 0] rfl)
  exact lp4 _ L0 0 0 (Nat.lt_succ_self _) (by exact hLI) (by omega) (by rw [show most - 0 = most by omega]; exact ⟨rfl, rfl⟩) _ _ _ hw (lv_sub hl [2, 3, 1, 0] rfl)
set_option maxHeartbeats 4000000 in
set_option maxRecDepth 100000 in
theorem kX2_setTerms (l : Launch) (X : KX) (h : Nat) (L : Nat → Int) (nr mo : Int) (hLI : LI L) (hnr : 0 ≤ nr ∧ nr ≤ 3000) (hmo : 0 ≤ mo ∧ mo ≤ 120) : CM l X yX2_setTerms wsX2_setTerms ({ frames := 2, cells := 0, slots := 0, locals := 56 }) [.ref h, .int (iI nr), .int (iI mo)] ([oX2 h (L 0) (L 1) (L 2) (L 3) (L 4) (L 5) (L 6) (L 7) (L 8) (L 9)]) (fun v9 w9 => v9 = some (.int (iI (setL L nr mo 4))) ∧ w9 = [oX2 h (setL L nr mo 0) (setL L nr mo 1) (setL L nr mo 2) (setL L nr mo 3) (setL L nr mo 4) (setL L nr mo 5) (setL L nr mo 6) (setL L nr mo 7) (setL L nr mo 8) (setL L nr mo 9)]) 0 0 := by
  refine lo_enter (cc := cX2_setTerms) (maxL := 3) (ret := (some .int)) (lv := [(0, .ref h), (1, .int (iI nr)), (2, .int (iI mo))]) (by decide) rfl rfl (Nat.le_of_ble_eq_true rfl) ?_
  intro p9 e9 s9 m9 bl9 me9 c9 A9 ls hAe E hRt hLk hK hl hw
  have Ex := E.1
  have Eb := E.2.1
  have huRX2 : ∀ w ∈ u_ws RX2 TX2 10, w ∈ wsX2_setTerms := by decide +kernel
  have hf18 : (Cond.fieldLink RX2 18 "LoanSchedule$Loan" "rate" "I").before _ s9 = true := E.2.2.2.2 _ (List.mem_of_getElem? (i := 1) rfl)
  have hf21 : (Cond.fieldLink RX2 21 "LoanSchedule$Loan" "monthsLeft" "I").before _ s9 = true := E.2.2.2.2 _ (List.mem_of_getElem? (i := 2) rfl)
  have hf24 : (Cond.fieldLink RX2 24 "LoanSchedule$Loan" "installment" "I").before _ s9 = true := E.2.2.2.2 _ (List.mem_of_getElem? (i := 3) rfl)
  obtain ⟨⟨hb0, hb1⟩, ⟨hr0, hr1⟩, ⟨hc0, hc1⟩, ⟨hm0, hm1⟩, ⟨hi0, hi1⟩, ⟨hk0, hk1⟩, hop, hcl⟩ := id hLI
  refine lv_aload_n Ex Eb dX2_setTerms_0 rfl (lv_at hl 0 rfl) ?_
  refine lv_iload_n Ex Eb dX2_setTerms_1 rfl (lv_at hl 1 rfl) ?_
  refine lo_put E hK hw huRX2 tyX2 tyX2_ok nmX2 2 hf18 rfl 0 rfl rfl (by decide) rfl rfl rfl rfl (Nat.le_of_ble_eq_true rfl) (ws' := [oX2 h (L 0) (L 1) nr (L 3) (L 4) (L 5) (L 6) (L 7) (L 8) (L 9)]) rfl dX2_setTerms_2 (fun H locs hw => ?_)
  refine lv_aload_n Ex Eb dX2_setTerms_5 rfl (lv_at hl 0 rfl) ?_
  refine lv_iload_n Ex Eb dX2_setTerms_6 rfl (lv_at hl 2 rfl) ?_
  refine lo_put E hK hw huRX2 tyX2 tyX2_ok nmX2 3 hf21 rfl 0 rfl rfl (by decide) rfl rfl rfl rfl (Nat.le_of_ble_eq_true rfl) (ws' := [oX2 h (L 0) (L 1) nr mo (L 4) (L 5) (L 6) (L 7) (L 8) (L 9)]) rfl dX2_setTerms_7 (fun H locs hw => ?_)
  refine lv_aload_n Ex Eb dX2_setTerms_10 rfl (lv_at hl 0 rfl) ?_
  refine lv_aload_n Ex Eb dX2_setTerms_11 rfl (lv_at hl 0 rfl) ?_
  refine lv_iload_n Ex Eb dX2_setTerms_12 rfl (lv_at hl 2 rfl) ?_
  refine lo_callV (q0 := 0) (rest := [.ref h]) E hK hw (kX2_levelFor l X h (lf (L 0) (L 1) nr mo (L 4) (L 5) (L 6) (L 7) (L 8) (L 9)) mo (show 0 ≤ (L 1) by omega) (show (L 1) ≤ 9999999 by omega) (show 0 ≤ nr by omega) (show nr ≤ 3000 by omega) (show 0 ≤ (L 5) by omega) (show (L 5) < 120000 by omega) (by omega)) (cwV 1 E.2.2.2.2 gX2_setTerms_X2_levelFor rfl rfl rfl (by decide +kernel) ⟨Nat.le_of_ble_eq_true rfl, Nat.le_of_ble_eq_true rfl⟩) rfl rfl [0] rfl (by decide) hl.1 rfl rfl (Nat.le_of_ble_eq_true rfl) dX2_setTerms_13 ⟨Nat.le_of_ble_eq_true rfl, Nat.le_of_ble_eq_true rfl⟩ (fun v w1 H locs hq hw => ?_)
  obtain ⟨rfl, rfl⟩ := hq
  have hw : lo_Wd X ([oX2 h (L 0) (L 1) nr mo (L 4) (L 5) (L 6) (L 7) (L 8) (L 9)]) A9 s9.heap H locs := hw
  refine W.eq (g2 := F0 m9 16 ls [.int (iI (lvl (L 1) nr (L 5) mo)), .ref h]) rfl ?_
  refine lo_put E hK hw huRX2 tyX2 tyX2_ok nmX2 4 hf24 rfl 0 rfl rfl (by decide) rfl rfl rfl rfl (Nat.le_of_ble_eq_true rfl) (ws' := [oX2 h (L 0) (L 1) nr mo (lvl (L 1) nr (L 5) mo) (L 5) (L 6) (L 7) (L 8) (L 9)]) rfl dX2_setTerms_16 (fun H locs hw => ?_)
  refine lv_aload_n Ex Eb dX2_setTerms_19 rfl (lv_at hl 0 rfl) ?_
  refine lo_get E hK hw huRX2 4 hf24 rfl 0 rfl rfl (by decide) (v := .int (iI (lvl (L 1) nr (L 5) mo))) rfl dX2_setTerms_20 ?_
  exact lo_iret E hRt hLk hK hAe hw dX2_setTerms_23 rfl ⟨rfl, rfl⟩
set_option maxHeartbeats 4000000 in
set_option maxRecDepth 100000 in
theorem kX2_defer (l : Launch) (X : KX) (h : Nat) (L : Nat → Int) (hLI : LI L) (hw : fW (L 1) (L 2) (L 5) ≤ 9999999) : CM l X yX2_defer wsX2_defer ({ frames := 2, cells := 0, slots := 0, locals := 56 }) [.ref h] ([oX2 h (L 0) (L 1) (L 2) (L 3) (L 4) (L 5) (L 6) (L 7) (L 8) (L 9)]) (fun v9 w9 => v9 = some (.int (iI (fI (L 1) (L 2) (L 5)))) ∧ w9 = [oX2 h (defL L 0) (defL L 1) (defL L 2) (defL L 3) (defL L 4) (defL L 5) (defL L 6) (defL L 7) (defL L 8) (defL L 9)]) 0 0 := by
  refine lo_enter (cc := cX2_defer) (maxL := 2) (ret := (some .int)) (lv := [(0, .ref h)]) (by decide) rfl rfl (Nat.le_of_ble_eq_true rfl) ?_
  intro p9 e9 s9 m9 bl9 me9 c9 A9 ls hAe E hRt hLk hK hl hw
  have Ex := E.1
  have Eb := E.2.1
  have huRX2 : ∀ w ∈ u_ws RX2 TX2 10, w ∈ wsX2_defer := by decide +kernel
  have hf39 : (Cond.fieldLink RX2 39 "LoanSchedule$Loan" "deferredCount" "I").before _ s9 = true := E.2.2.2.2 _ (List.mem_of_getElem? (i := 1) rfl)
  have hf21 : (Cond.fieldLink RX2 21 "LoanSchedule$Loan" "monthsLeft" "I").before _ s9 = true := E.2.2.2.2 _ (List.mem_of_getElem? (i := 2) rfl)
  have hf24 : (Cond.fieldLink RX2 24 "LoanSchedule$Loan" "installment" "I").before _ s9 = true := E.2.2.2.2 _ (List.mem_of_getElem? (i := 3) rfl)
  obtain ⟨⟨hb0, hb1⟩, ⟨hr0, hr1⟩, ⟨hc0, hc1⟩, ⟨hm0, hm1⟩, ⟨hi0, hi1⟩, ⟨hk0, hk1⟩, hop, hcl⟩ := id hLI
  have hfi := fI_r hb0 hr0 hr1 hc0 hc1
  have hfw : fW (L 1) (L 2) (L 5) = L 1 + fI (L 1) (L 2) (L 5) := rfl
  have hfc := fC_r (L 1) (L 2) (L 5)
  refine lv_aload_n Ex Eb dX2_defer_0 rfl (lv_at hl 0 rfl) ?_
  refine lo_callV (q0 := 0) (rest := []) E hK hw (kX2_addInterest l X h L (by omega) (by omega) (by omega) (by omega) (by omega) (by omega)) (cwV 0 E.2.2.2.2 gX2_defer_X2_addInterest rfl rfl rfl (by decide +kernel) ⟨Nat.le_of_ble_eq_true rfl, Nat.le_of_ble_eq_true rfl⟩) rfl rfl [0] rfl (by decide) hl.1 rfl rfl (Nat.le_of_ble_eq_true rfl) dX2_defer_1 ⟨Nat.le_of_ble_eq_true rfl, Nat.le_of_ble_eq_true rfl⟩ (fun v w1 H locs hq hw => ?_)
  obtain ⟨rfl, rfl⟩ := hq
  have hw : lo_Wd X ([oX2 h (L 0) (fW (L 1) (L 2) (L 5)) (L 2) (L 3) (L 4) (fC (L 1) (L 2) (L 5)) ((L 6) + fI (L 1) (L 2) (L 5)) (L 7) (L 8) (L 9)]) A9 s9.heap H locs := hw
  refine W.eq (g2 := F0 m9 4 ls [.int (iI (fI (L 1) (L 2) (L 5)))]) rfl ?_
  refine lv_istore_n (lv' := [(1, .int (iI (fI (L 1) (L 2) (L 5)))), (0, .ref h)]) Ex Eb dX2_defer_4 rfl hl (by decide) rfl (fun ls hl => ?_)
  refine lv_aload_n Ex Eb dX2_defer_5 rfl (lv_at hl 1 rfl) ?_
  refine lv_dup Ex Eb dX2_defer_6 rfl ?_
  refine lo_get E hK hw huRX2 9 hf39 rfl 0 rfl rfl (by decide) (v := .int (iI (L 9))) rfl dX2_defer_7 ?_
  refine lv_iconst (v := iI 1) Ex Eb dX2_defer_10 rfl ?_
  refine lo_iadd E dX2_defer_11 ?_
  refine lo_put E hK hw huRX2 tyX2 tyX2_ok nmX2 9 hf39 rfl 0 rfl rfl (by decide) rfl rfl rfl rfl (Nat.le_of_ble_eq_true rfl) (ws' := [oX2 h (L 0) (fW (L 1) (L 2) (L 5)) (L 2) (L 3) (L 4) (fC (L 1) (L 2) (L 5)) ((L 6) + fI (L 1) (L 2) (L 5)) (L 7) (L 8) ((L 9) + 1)]) rfl dX2_defer_12 (fun H locs hw => ?_)
  refine lv_aload_n Ex Eb dX2_defer_15 rfl (lv_at hl 1 rfl) ?_
  refine lv_aload_n Ex Eb dX2_defer_16 rfl (lv_at hl 1 rfl) ?_
  refine lv_aload_n Ex Eb dX2_defer_17 rfl (lv_at hl 1 rfl) ?_
  refine lo_get E hK hw huRX2 3 hf21 rfl 0 rfl rfl (by decide) (v := .int (iI (L 3))) rfl dX2_defer_18 ?_
  refine lo_callV (q0 := 0) (rest := [.ref h]) E hK hw (kX2_levelFor l X h (lf (L 0) (fW (L 1) (L 2) (L 5)) (L 2) (L 3) (L 4) (fC (L 1) (L 2) (L 5)) ((L 6) + fI (L 1) (L 2) (L 5)) (L 7) (L 8) ((L 9) + 1)) (L 3) (show 0 ≤ (fW (L 1) (L 2) (L 5)) by omega) (show (fW (L 1) (L 2) (L 5)) ≤ 9999999 by omega) (show 0 ≤ (L 2) by omega) (show (L 2) ≤ 3000 by omega) (show 0 ≤ (fC (L 1) (L 2) (L 5)) by omega) (show (fC (L 1) (L 2) (L 5)) < 120000 by omega) (by omega)) (cwV 1 E.2.2.2.2 gX2_defer_X2_levelFor rfl rfl rfl (by decide +kernel) ⟨Nat.le_of_ble_eq_true rfl, Nat.le_of_ble_eq_true rfl⟩) rfl rfl [0] rfl (by decide) hl.1 rfl rfl (Nat.le_of_ble_eq_true rfl) dX2_defer_21 ⟨Nat.le_of_ble_eq_true rfl, Nat.le_of_ble_eq_true rfl⟩ (fun v w1 H locs hq hw => ?_)
  obtain ⟨rfl, rfl⟩ := hq
  have hw : lo_Wd X ([oX2 h (L 0) (fW (L 1) (L 2) (L 5)) (L 2) (L 3) (L 4) (fC (L 1) (L 2) (L 5)) ((L 6) + fI (L 1) (L 2) (L 5)) (L 7) (L 8) ((L 9) + 1)]) A9 s9.heap H locs := hw
  refine W.eq (g2 := F0 m9 24 ls [.int (iI (lvl (fW (L 1) (L 2) (L 5)) (L 2) (fC (L 1) (L 2) (L 5)) (L 3))), .ref h]) rfl ?_
  refine lo_put E hK hw huRX2 tyX2 tyX2_ok nmX2 4 hf24 rfl 0 rfl rfl (by decide) rfl rfl rfl rfl (Nat.le_of_ble_eq_true rfl) (ws' := [oX2 h (L 0) (fW (L 1) (L 2) (L 5)) (L 2) (L 3) (lvl (fW (L 1) (L 2) (L 5)) (L 2) (fC (L 1) (L 2) (L 5)) (L 3)) (fC (L 1) (L 2) (L 5)) ((L 6) + fI (L 1) (L 2) (L 5)) (L 7) (L 8) ((L 9) + 1)]) rfl dX2_defer_24 (fun H locs hw => ?_)
  refine lv_iload_n Ex Eb dX2_defer_27 rfl (lv_at hl 0 rfl) ?_
  exact lo_iret E hRt hLk hK hAe hw dX2_defer_28 rfl ⟨rfl, rfl⟩
set_option maxHeartbeats 4000000 in
set_option maxRecDepth 100000 in
theorem kX2_reduceBy (l : Launch) (X : KX) (h : Nat) (L : Nat → Int) (a kp : Int) (hLI : LI L) (ho : 0 < L 1) (ha : 1 ≤ a ∧ a ≤ L 1) (hkp : kp = 0 ∨ kp = 1) : CM l X yX2_reduceBy wsX2_reduceBy ({ frames := 2, cells := 0, slots := 0, locals := 56 }) [.ref h, .int (iI a), .int (iI kp)] ([oX2 h (L 0) (L 1) (L 2) (L 3) (L 4) (L 5) (L 6) (L 7) (L 8) (L 9)]) (fun v9 w9 => v9 = none ∧ w9 = [oX2 h (redL L a kp 0) (redL L a kp 1) (redL L a kp 2) (redL L a kp 3) (redL L a kp 4) (redL L a kp 5) (redL L a kp 6) (redL L a kp 7) (redL L a kp 8) (redL L a kp 9)]) 0 0 := by
  refine lo_enter (cc := cX2_reduceBy) (maxL := 3) (ret := none) (lv := [(0, .ref h), (1, .int (iI a)), (2, .int (iI kp))]) (by decide) rfl rfl (Nat.le_of_ble_eq_true rfl) ?_
  intro p9 e9 s9 m9 bl9 me9 c9 A9 ls hAe E hRt hLk hK hl hw
  have Ex := E.1
  have Eb := E.2.1
  have huRX2 : ∀ w ∈ u_ws RX2 TX2 10, w ∈ wsX2_reduceBy := by decide +kernel
  have hf15 : (Cond.fieldLink RX2 15 "LoanSchedule$Loan" "balance" "I").before _ s9 = true := E.2.2.2.2 _ (List.mem_of_getElem? (i := 1) rfl)
  have hf24 : (Cond.fieldLink RX2 24 "LoanSchedule$Loan" "installment" "I").before _ s9 = true := E.2.2.2.2 _ (List.mem_of_getElem? (i := 3) rfl)
  have hf21 : (Cond.fieldLink RX2 21 "LoanSchedule$Loan" "monthsLeft" "I").before _ s9 = true := E.2.2.2.2 _ (List.mem_of_getElem? (i := 2) rfl)
  obtain ⟨⟨hb0, hb1⟩, ⟨hr0, hr1⟩, ⟨hc0, hc1⟩, ⟨hm0, hm1⟩, ⟨hi0, hi1⟩, ⟨hk0, hk1⟩, hop, hcl⟩ := id hLI
  have hor := redL_cases L a kp
  refine lv_aload_n Ex Eb dX2_reduceBy_0 rfl (lv_at hl 0 rfl) ?_
  refine lv_iload_n Ex Eb dX2_reduceBy_1 rfl (lv_at hl 1 rfl) ?_
  refine lo_callV (q0 := 0) (rest := []) E hK hw (kX2_takeOff l X h L a (by omega)) (cwV 1 E.2.2.2.2 gX2_reduceBy_X2_takeOff rfl rfl rfl (by decide +kernel) ⟨Nat.le_of_ble_eq_true rfl, Nat.le_of_ble_eq_true rfl⟩) rfl rfl [0] rfl (by decide) hl.1 rfl rfl (Nat.le_of_ble_eq_true rfl) dX2_reduceBy_2 ⟨Nat.le_of_ble_eq_true rfl, Nat.le_of_ble_eq_true rfl⟩ (fun v w1 H locs hq hw => ?_)
  obtain ⟨rfl, rfl⟩ := hq
  have hw : lo_Wd X ([oX2 h (L 0) ((L 1) - a) (L 2) (fz ((L 1) - a) (L 3)) (fz ((L 1) - a) (L 4)) (fz ((L 1) - a) (L 5)) (L 6) ((L 7) + a) (L 8) (L 9)]) A9 s9.heap H locs := hw
  refine W.eq (g2 := F0 m9 5 ls []) rfl ?_
  refine lv_aload_n Ex Eb dX2_reduceBy_5 rfl (lv_at hl 0 rfl) ?_
  refine lo_get E hK hw huRX2 1 hf15 rfl 0 rfl rfl (by decide) (v := .int (iI ((L 1) - a))) rfl dX2_reduceBy_6 ?_
  refine lo_if_ne (tgt := 13) E dX2_reduceBy_9 (by decide) (by omega) (fun c1 => ?_) (fun c1 => ?_)
  · skip
    simp only [fz_n (show L 1 - a ≠ 0 by omega)] at hw
    have hw : lo_Wd X ([oX2 h (L 0) ((L 1) - a) (L 2) (L 3) (L 4) (L 5) (L 6) ((L 7) + a) (L 8) (L 9)]) A9 s9.heap H locs := hw
    refine lv_iload_n Ex Eb dX2_reduceBy_13 rfl (lv_at hl 2 rfl) ?_
    refine lo_if_eq (tgt := 32) E dX2_reduceBy_14 (by decide) (by omega) (fun c2 => ?_) (fun c2 => ?_)
    · skip
      refine lv_aload_n Ex Eb dX2_reduceBy_32 rfl (lv_at hl 0 rfl) ?_
      refine lv_aload_n Ex Eb dX2_reduceBy_33 rfl (lv_at hl 0 rfl) ?_
      refine lv_aload_n Ex Eb dX2_reduceBy_34 rfl (lv_at hl 0 rfl) ?_
      refine lo_get E hK hw huRX2 4 hf24 rfl 0 rfl rfl (by decide) (v := .int (iI (L 4))) rfl dX2_reduceBy_35 ?_
      refine lv_aload_n Ex Eb dX2_reduceBy_38 rfl (lv_at hl 0 rfl) ?_
      refine lo_get E hK hw huRX2 3 hf21 rfl 0 rfl rfl (by decide) (v := .int (iI (L 3))) rfl dX2_reduceBy_39 ?_
      refine lo_callV (q0 := 0) (rest := [.ref h]) E hK hw (kX2_termFor l X h (lf (L 0) ((L 1) - a) (L 2) (L 3) (L 4) (L 5) (L 6) ((L 7) + a) (L 8) (L 9)) (L 4) (L 3) (show 0 ≤ ((L 1) - a) by omega) (show ((L 1) - a) ≤ 9999999 by omega) (show 0 ≤ (L 2) by omega) (show (L 2) ≤ 3000 by omega) (show 0 ≤ (L 5) by omega) (show (L 5) < 120000 by omega) (by omega) (by omega)) (cwV 2 E.2.2.2.2 gX2_reduceBy_X2_termFor rfl rfl rfl (by decide +kernel) ⟨Nat.le_of_ble_eq_true rfl, Nat.le_of_ble_eq_true rfl⟩) rfl rfl [0] rfl (by decide) hl.1 rfl rfl (Nat.le_of_ble_eq_true rfl) dX2_reduceBy_42 ⟨Nat.le_of_ble_eq_true rfl, Nat.le_of_ble_eq_true rfl⟩ (fun v w1 H locs hq hw => ?_)
      obtain ⟨rfl, rfl⟩ := hq
      have hw : lo_Wd X ([oX2 h (L 0) ((L 1) - a) (L 2) (L 3) (L 4) (L 5) (L 6) ((L 7) + a) (L 8) (L 9)]) A9 s9.heap H locs := hw
      refine W.eq (g2 := F0 m9 45 ls [.int (iI (trm (L 2) (L 4) (L 3).toNat 1 ((L 1) - a) (L 5))), .ref h]) rfl ?_
      refine lo_put E hK hw huRX2 tyX2 tyX2_ok nmX2 3 hf21 rfl 0 rfl rfl (by decide) rfl rfl rfl rfl (Nat.le_of_ble_eq_true rfl) (ws' := [oX2 h (L 0) ((L 1) - a) (L 2) (trm (L 2) (L 4) (L 3).toNat 1 ((L 1) - a) (L 5)) (L 4) (L 5) (L 6) ((L 7) + a) (L 8) (L 9)]) rfl dX2_reduceBy_45 (fun H locs hw => ?_)
      exact lo_vret E hRt hLk hK hAe hw dX2_reduceBy_48 rfl ⟨rfl, by first | (rw [hor.2.1 (by omega) (by omega)]; rfl) | (rw [hor.2.2 (by omega) (by omega)]; rfl)⟩
    · skip
      refine lv_aload_n Ex Eb dX2_reduceBy_17 rfl (lv_at hl 0 rfl) ?_
      refine lv_aload_n Ex Eb dX2_reduceBy_18 rfl (lv_at hl 0 rfl) ?_
      refine lv_aload_n Ex Eb dX2_reduceBy_19 rfl (lv_at hl 0 rfl) ?_
      refine lo_get E hK hw huRX2 3 hf21 rfl 0 rfl rfl (by decide) (v := .int (iI (L 3))) rfl dX2_reduceBy_20 ?_
      refine lo_callV (q0 := 0) (rest := [.ref h]) E hK hw (kX2_levelFor l X h (lf (L 0) ((L 1) - a) (L 2) (L 3) (L 4) (L 5) (L 6) ((L 7) + a) (L 8) (L 9)) (L 3) (show 0 ≤ ((L 1) - a) by omega) (show ((L 1) - a) ≤ 9999999 by omega) (show 0 ≤ (L 2) by omega) (show (L 2) ≤ 3000 by omega) (show 0 ≤ (L 5) by omega) (show (L 5) < 120000 by omega) (by omega)) (cwV 1 E.2.2.2.2 gX2_reduceBy_X2_levelFor rfl rfl rfl (by decide +kernel) ⟨Nat.le_of_ble_eq_true rfl, Nat.le_of_ble_eq_true rfl⟩) rfl rfl [0] rfl (by decide) hl.1 rfl rfl (Nat.le_of_ble_eq_true rfl) dX2_reduceBy_23 ⟨Nat.le_of_ble_eq_true rfl, Nat.le_of_ble_eq_true rfl⟩ (fun v w1 H locs hq hw => ?_)
      obtain ⟨rfl, rfl⟩ := hq
      have hw : lo_Wd X ([oX2 h (L 0) ((L 1) - a) (L 2) (L 3) (L 4) (L 5) (L 6) ((L 7) + a) (L 8) (L 9)]) A9 s9.heap H locs := hw
      refine W.eq (g2 := F0 m9 26 ls [.int (iI (lvl ((L 1) - a) (L 2) (L 5) (L 3))), .ref h]) rfl ?_
      refine lo_put E hK hw huRX2 tyX2 tyX2_ok nmX2 4 hf24 rfl 0 rfl rfl (by decide) rfl rfl rfl rfl (Nat.le_of_ble_eq_true rfl) (ws' := [oX2 h (L 0) ((L 1) - a) (L 2) (L 3) (lvl ((L 1) - a) (L 2) (L 5) (L 3)) (L 5) (L 6) ((L 7) + a) (L 8) (L 9)]) rfl dX2_reduceBy_26 (fun H locs hw => ?_)
      refine lv_goto (tgt := 48) Ex Eb dX2_reduceBy_29 (by decide) ?_
      exact lo_vret E hRt hLk hK hAe hw dX2_reduceBy_48 rfl ⟨rfl, by first | (rw [hor.2.1 (by omega) (by omega)]; rfl) | (rw [hor.2.2 (by omega) (by omega)]; rfl)⟩
  · skip
    exact lo_vret E hRt hLk hK hAe hw dX2_reduceBy_12 rfl ⟨rfl, by rw [hor.1 (by omega)]; simp only [fz_0 (show L 1 - a = 0 by omega), show L 1 - a = 0 by omega]; rfl⟩
set_option maxHeartbeats 4000000 in
set_option maxRecDepth 100000 in
theorem kX2_begin (l : Launch) (X : KX) (h : Nat) (L : Nat → Int) (a nr mo : Int) (ha : 1 ≤ a ∧ a ≤ 9999999) (hnr : 0 ≤ nr ∧ nr ≤ 3000) (hmo : 0 ≤ mo ∧ mo ≤ 120) : CM l X yX2_begin wsX2_begin ({ frames := 2, cells := 0, slots := 0, locals := 56 }) [.ref h, .int (iI a), .int (iI nr), .int (iI mo)] ([oX2 h (L 0) (L 1) (L 2) (L 3) (L 4) (L 5) (L 6) (L 7) (L 8) (L 9)]) (fun v9 w9 => v9 = none ∧ w9 = [oX2 h (newL a nr mo 0) (newL a nr mo 1) (newL a nr mo 2) (newL a nr mo 3) (newL a nr mo 4) (newL a nr mo 5) (newL a nr mo 6) (newL a nr mo 7) (newL a nr mo 8) (newL a nr mo 9)]) 0 0 := by
  refine lo_enter (cc := cX2_begin) (maxL := 4) (ret := none) (lv := [(0, .ref h), (1, .int (iI a)), (2, .int (iI nr)), (3, .int (iI mo))]) (by decide) rfl rfl (Nat.le_of_ble_eq_true rfl) ?_
  intro p9 e9 s9 m9 bl9 me9 c9 A9 ls hAe E hRt hLk hK hl hw
  have Ex := E.1
  have Eb := E.2.1
  have huRX2 : ∀ w ∈ u_ws RX2 TX2 10, w ∈ wsX2_begin := by decide +kernel
  have hf9 : (Cond.fieldLink RX2 9 "LoanSchedule$Loan" "principal" "I").before _ s9 = true := E.2.2.2.2 _ (List.mem_of_getElem? (i := 1) rfl)
  have hf15 : (Cond.fieldLink RX2 15 "LoanSchedule$Loan" "balance" "I").before _ s9 = true := E.2.2.2.2 _ (List.mem_of_getElem? (i := 2) rfl)
  have hf27 : (Cond.fieldLink RX2 27 "LoanSchedule$Loan" "carry" "I").before _ s9 = true := E.2.2.2.2 _ (List.mem_of_getElem? (i := 3) rfl)
  have hf30 : (Cond.fieldLink RX2 30 "LoanSchedule$Loan" "interestSum" "I").before _ s9 = true := E.2.2.2.2 _ (List.mem_of_getElem? (i := 4) rfl)
  have hf33 : (Cond.fieldLink RX2 33 "LoanSchedule$Loan" "paidSum" "I").before _ s9 = true := E.2.2.2.2 _ (List.mem_of_getElem? (i := 5) rfl)
  have hf36 : (Cond.fieldLink RX2 36 "LoanSchedule$Loan" "settledCount" "I").before _ s9 = true := E.2.2.2.2 _ (List.mem_of_getElem? (i := 6) rfl)
  have hf39 : (Cond.fieldLink RX2 39 "LoanSchedule$Loan" "deferredCount" "I").before _ s9 = true := E.2.2.2.2 _ (List.mem_of_getElem? (i := 7) rfl)
  have hf18 : (Cond.fieldLink RX2 18 "LoanSchedule$Loan" "rate" "I").before _ s9 = true := E.2.2.2.2 _ (List.mem_of_getElem? (i := 8) rfl)
  have hf21 : (Cond.fieldLink RX2 21 "LoanSchedule$Loan" "monthsLeft" "I").before _ s9 = true := E.2.2.2.2 _ (List.mem_of_getElem? (i := 9) rfl)
  have hf24 : (Cond.fieldLink RX2 24 "LoanSchedule$Loan" "installment" "I").before _ s9 = true := E.2.2.2.2 _ (List.mem_of_getElem? (i := 10) rfl)
  refine lv_aload_n Ex Eb dX2_begin_0 rfl (lv_at hl 0 rfl) ?_
  refine lv_iload_n Ex Eb dX2_begin_1 rfl (lv_at hl 1 rfl) ?_
  refine lo_put E hK hw huRX2 tyX2 tyX2_ok nmX2 0 hf9 rfl 0 rfl rfl (by decide) rfl rfl rfl rfl (Nat.le_of_ble_eq_true rfl) (ws' := [oX2 h a (L 1) (L 2) (L 3) (L 4) (L 5) (L 6) (L 7) (L 8) (L 9)]) rfl dX2_begin_2 (fun H locs hw => ?_)
  refine lv_aload_n Ex Eb dX2_begin_5 rfl (lv_at hl 0 rfl) ?_
  refine lv_iload_n Ex Eb dX2_begin_6 rfl (lv_at hl 1 rfl) ?_
  refine lo_put E hK hw huRX2 tyX2 tyX2_ok nmX2 1 hf15 rfl 0 rfl rfl (by decide) rfl rfl rfl rfl (Nat.le_of_ble_eq_true rfl) (ws' := [oX2 h a a (L 2) (L 3) (L 4) (L 5) (L 6) (L 7) (L 8) (L 9)]) rfl dX2_begin_7 (fun H locs hw => ?_)
  refine lv_aload_n Ex Eb dX2_begin_10 rfl (lv_at hl 0 rfl) ?_
  refine lv_iconst (v := iI 0) Ex Eb dX2_begin_11 rfl ?_
  refine lo_put E hK hw huRX2 tyX2 tyX2_ok nmX2 5 hf27 rfl 0 rfl rfl (by decide) rfl rfl rfl rfl (Nat.le_of_ble_eq_true rfl) (ws' := [oX2 h a a (L 2) (L 3) (L 4) 0 (L 6) (L 7) (L 8) (L 9)]) rfl dX2_begin_12 (fun H locs hw => ?_)
  refine lv_aload_n Ex Eb dX2_begin_15 rfl (lv_at hl 0 rfl) ?_
  refine lv_iconst (v := iI 0) Ex Eb dX2_begin_16 rfl ?_
  refine lo_put E hK hw huRX2 tyX2 tyX2_ok nmX2 6 hf30 rfl 0 rfl rfl (by decide) rfl rfl rfl rfl (Nat.le_of_ble_eq_true rfl) (ws' := [oX2 h a a (L 2) (L 3) (L 4) 0 0 (L 7) (L 8) (L 9)]) rfl dX2_begin_17 (fun H locs hw => ?_)
  refine lv_aload_n Ex Eb dX2_begin_20 rfl (lv_at hl 0 rfl) ?_
  refine lv_iconst (v := iI 0) Ex Eb dX2_begin_21 rfl ?_
  refine lo_put E hK hw huRX2 tyX2 tyX2_ok nmX2 7 hf33 rfl 0 rfl rfl (by decide) rfl rfl rfl rfl (Nat.le_of_ble_eq_true rfl) (ws' := [oX2 h a a (L 2) (L 3) (L 4) 0 0 0 (L 8) (L 9)]) rfl dX2_begin_22 (fun H locs hw => ?_)
  refine lv_aload_n Ex Eb dX2_begin_25 rfl (lv_at hl 0 rfl) ?_
  refine lv_iconst (v := iI 0) Ex Eb dX2_begin_26 rfl ?_
  refine lo_put E hK hw huRX2 tyX2 tyX2_ok nmX2 8 hf36 rfl 0 rfl rfl (by decide) rfl rfl rfl rfl (Nat.le_of_ble_eq_true rfl) (ws' := [oX2 h a a (L 2) (L 3) (L 4) 0 0 0 0 (L 9)]) rfl dX2_begin_27 (fun H locs hw => ?_)
  refine lv_aload_n Ex Eb dX2_begin_30 rfl (lv_at hl 0 rfl) ?_
  refine lv_iconst (v := iI 0) Ex Eb dX2_begin_31 rfl ?_
  refine lo_put E hK hw huRX2 tyX2 tyX2_ok nmX2 9 hf39 rfl 0 rfl rfl (by decide) rfl rfl rfl rfl (Nat.le_of_ble_eq_true rfl) (ws' := [oX2 h a a (L 2) (L 3) (L 4) 0 0 0 0 0]) rfl dX2_begin_32 (fun H locs hw => ?_)
  refine lv_aload_n Ex Eb dX2_begin_35 rfl (lv_at hl 0 rfl) ?_
  refine lv_iload_n Ex Eb dX2_begin_36 rfl (lv_at hl 2 rfl) ?_
  refine lo_put E hK hw huRX2 tyX2 tyX2_ok nmX2 2 hf18 rfl 0 rfl rfl (by decide) rfl rfl rfl rfl (Nat.le_of_ble_eq_true rfl) (ws' := [oX2 h a a nr (L 3) (L 4) 0 0 0 0 0]) rfl dX2_begin_37 (fun H locs hw => ?_)
  refine lv_aload_n Ex Eb dX2_begin_40 rfl (lv_at hl 0 rfl) ?_
  refine lv_iload_n Ex Eb dX2_begin_41 rfl (lv_at hl 3 rfl) ?_
  refine lo_put E hK hw huRX2 tyX2 tyX2_ok nmX2 3 hf21 rfl 0 rfl rfl (by decide) rfl rfl rfl rfl (Nat.le_of_ble_eq_true rfl) (ws' := [oX2 h a a nr mo (L 4) 0 0 0 0 0]) rfl dX2_begin_42 (fun H locs hw => ?_)
  refine lv_aload_n Ex Eb dX2_begin_45 rfl (lv_at hl 0 rfl) ?_
  refine lv_aload_n Ex Eb dX2_begin_46 rfl (lv_at hl 0 rfl) ?_
  refine lv_iload_n Ex Eb dX2_begin_47 rfl (lv_at hl 3 rfl) ?_
  refine lo_callV (q0 := 0) (rest := [.ref h]) E hK hw (kX2_levelFor l X h (lf a a nr mo (L 4) 0 0 0 0 0) mo (show 0 ≤ a by omega) (show a ≤ 9999999 by omega) (show 0 ≤ nr by omega) (show nr ≤ 3000 by omega) (show 0 ≤ 0 by omega) (show 0 < 120000 by omega) (by omega)) (cwV 1 E.2.2.2.2 gX2_begin_X2_levelFor rfl rfl rfl (by decide +kernel) ⟨Nat.le_of_ble_eq_true rfl, Nat.le_of_ble_eq_true rfl⟩) rfl rfl [0] rfl (by decide) hl.1 rfl rfl (Nat.le_of_ble_eq_true rfl) dX2_begin_48 ⟨Nat.le_of_ble_eq_true rfl, Nat.le_of_ble_eq_true rfl⟩ (fun v w1 H locs hq hw => ?_)
  obtain ⟨rfl, rfl⟩ := hq
  have hw : lo_Wd X ([oX2 h a a nr mo (L 4) 0 0 0 0 0]) A9 s9.heap H locs := hw
  refine W.eq (g2 := F0 m9 51 ls [.int (iI (lvl a nr 0 mo)), .ref h]) rfl ?_
  refine lo_put E hK hw huRX2 tyX2 tyX2_ok nmX2 4 hf24 rfl 0 rfl rfl (by decide) rfl rfl rfl rfl (Nat.le_of_ble_eq_true rfl) (ws' := [oX2 h a a nr mo (lvl a nr 0 mo) 0 0 0 0 0]) rfl dX2_begin_51 (fun H locs hw => ?_)
  exact lo_vret E hRt hLk hK hAe hw dX2_begin_54 rfl ⟨rfl, rfl⟩
set_option maxHeartbeats 4000000 in
set_option maxRecDepth 100000 in
theorem kX2_copyFrom (l : Launch) (X : KX) (h h2 : Nat) (L M : Nat → Int) : CM l X yX2_copyFrom wsX2_copyFrom ({ frames := 0, cells := 0, slots := 0, locals := 0 }) [.ref h, .ref h2] ([oX2 h (L 0) (L 1) (L 2) (L 3) (L 4) (L 5) (L 6) (L 7) (L 8) (L 9), oX2 h2 (M 0) (M 1) (M 2) (M 3) (M 4) (M 5) (M 6) (M 7) (M 8) (M 9)]) (fun v9 w9 => v9 = none ∧ w9 = [oX2 h (M 0) (M 1) (M 2) (M 3) (M 4) (M 5) (M 6) (M 7) (M 8) (M 9), oX2 h2 (M 0) (M 1) (M 2) (M 3) (M 4) (M 5) (M 6) (M 7) (M 8) (M 9)]) 0 0 := by
  refine lo_enter (cc := cX2_copyFrom) (maxL := 2) (ret := none) (lv := [(0, .ref h), (1, .ref h2)]) (by decide) rfl rfl (Nat.le_of_ble_eq_true rfl) ?_
  intro p9 e9 s9 m9 bl9 me9 c9 A9 ls hAe E hRt hLk hK hl hw
  have Ex := E.1
  have Eb := E.2.1
  have huRX2 : ∀ w ∈ u_ws RX2 TX2 10, w ∈ wsX2_copyFrom := by decide +kernel
  have hf9 : (Cond.fieldLink RX2 9 "LoanSchedule$Loan" "principal" "I").before _ s9 = true := E.2.2.2.2 _ (List.mem_of_getElem? (i := 1) rfl)
  have hf15 : (Cond.fieldLink RX2 15 "LoanSchedule$Loan" "balance" "I").before _ s9 = true := E.2.2.2.2 _ (List.mem_of_getElem? (i := 2) rfl)
  have hf18 : (Cond.fieldLink RX2 18 "LoanSchedule$Loan" "rate" "I").before _ s9 = true := E.2.2.2.2 _ (List.mem_of_getElem? (i := 3) rfl)
  have hf21 : (Cond.fieldLink RX2 21 "LoanSchedule$Loan" "monthsLeft" "I").before _ s9 = true := E.2.2.2.2 _ (List.mem_of_getElem? (i := 4) rfl)
  have hf24 : (Cond.fieldLink RX2 24 "LoanSchedule$Loan" "installment" "I").before _ s9 = true := E.2.2.2.2 _ (List.mem_of_getElem? (i := 5) rfl)
  have hf27 : (Cond.fieldLink RX2 27 "LoanSchedule$Loan" "carry" "I").before _ s9 = true := E.2.2.2.2 _ (List.mem_of_getElem? (i := 6) rfl)
  have hf30 : (Cond.fieldLink RX2 30 "LoanSchedule$Loan" "interestSum" "I").before _ s9 = true := E.2.2.2.2 _ (List.mem_of_getElem? (i := 7) rfl)
  have hf33 : (Cond.fieldLink RX2 33 "LoanSchedule$Loan" "paidSum" "I").before _ s9 = true := E.2.2.2.2 _ (List.mem_of_getElem? (i := 8) rfl)
  have hf36 : (Cond.fieldLink RX2 36 "LoanSchedule$Loan" "settledCount" "I").before _ s9 = true := E.2.2.2.2 _ (List.mem_of_getElem? (i := 9) rfl)
  have hf39 : (Cond.fieldLink RX2 39 "LoanSchedule$Loan" "deferredCount" "I").before _ s9 = true := E.2.2.2.2 _ (List.mem_of_getElem? (i := 10) rfl)
  refine lv_aload_n Ex Eb dX2_copyFrom_0 rfl (lv_at hl 0 rfl) ?_
  refine lv_aload_n Ex Eb dX2_copyFrom_1 rfl (lv_at hl 1 rfl) ?_
  refine lo_get E hK hw huRX2 0 hf9 rfl 1 rfl rfl (by decide) (v := .int (iI (M 0))) rfl dX2_copyFrom_2 ?_
  refine lo_put E hK hw huRX2 tyX2 tyX2_ok nmX2 0 hf9 rfl 0 rfl rfl (by decide) rfl rfl rfl rfl (Nat.le_of_ble_eq_true rfl) (ws' := [oX2 h (M 0) (L 1) (L 2) (L 3) (L 4) (L 5) (L 6) (L 7) (L 8) (L 9), oX2 h2 (M 0) (M 1) (M 2) (M 3) (M 4) (M 5) (M 6) (M 7) (M 8) (M 9)]) rfl dX2_copyFrom_5 (fun H locs hw => ?_)
  refine lv_aload_n Ex Eb dX2_copyFrom_8 rfl (lv_at hl 0 rfl) ?_
  refine lv_aload_n Ex Eb dX2_copyFrom_9 rfl (lv_at hl 1 rfl) ?_
  refine lo_get E hK hw huRX2 1 hf15 rfl 1 rfl rfl (by decide) (v := .int (iI (M 1))) rfl dX2_copyFrom_10 ?_
  refine lo_put E hK hw huRX2 tyX2 tyX2_ok nmX2 1 hf15 rfl 0 rfl rfl (by decide) rfl rfl rfl rfl (Nat.le_of_ble_eq_true rfl) (ws' := [oX2 h (M 0) (M 1) (L 2) (L 3) (L 4) (L 5) (L 6) (L 7) (L 8) (L 9), oX2 h2 (M 0) (M 1) (M 2) (M 3) (M 4) (M 5) (M 6) (M 7) (M 8) (M 9)]) rfl dX2_copyFrom_13 (fun H locs hw => ?_)
  refine lv_aload_n Ex Eb dX2_copyFrom_16 rfl (lv_at hl 0 rfl) ?_
  refine lv_aload_n Ex Eb dX2_copyFrom_17 rfl (lv_at hl 1 rfl) ?_
  refine lo_get E hK hw huRX2 2 hf18 rfl 1 rfl rfl (by decide) (v := .int (iI (M 2))) rfl dX2_copyFrom_18 ?_
  refine lo_put E hK hw huRX2 tyX2 tyX2_ok nmX2 2 hf18 rfl 0 rfl rfl (by decide) rfl rfl rfl rfl (Nat.le_of_ble_eq_true rfl) (ws' := [oX2 h (M 0) (M 1) (M 2) (L 3) (L 4) (L 5) (L 6) (L 7) (L 8) (L 9), oX2 h2 (M 0) (M 1) (M 2) (M 3) (M 4) (M 5) (M 6) (M 7) (M 8) (M 9)]) rfl dX2_copyFrom_21 (fun H locs hw => ?_)
  refine lv_aload_n Ex Eb dX2_copyFrom_24 rfl (lv_at hl 0 rfl) ?_
  refine lv_aload_n Ex Eb dX2_copyFrom_25 rfl (lv_at hl 1 rfl) ?_
  refine lo_get E hK hw huRX2 3 hf21 rfl 1 rfl rfl (by decide) (v := .int (iI (M 3))) rfl dX2_copyFrom_26 ?_
  refine lo_put E hK hw huRX2 tyX2 tyX2_ok nmX2 3 hf21 rfl 0 rfl rfl (by decide) rfl rfl rfl rfl (Nat.le_of_ble_eq_true rfl) (ws' := [oX2 h (M 0) (M 1) (M 2) (M 3) (L 4) (L 5) (L 6) (L 7) (L 8) (L 9), oX2 h2 (M 0) (M 1) (M 2) (M 3) (M 4) (M 5) (M 6) (M 7) (M 8) (M 9)]) rfl dX2_copyFrom_29 (fun H locs hw => ?_)
  refine lv_aload_n Ex Eb dX2_copyFrom_32 rfl (lv_at hl 0 rfl) ?_
  refine lv_aload_n Ex Eb dX2_copyFrom_33 rfl (lv_at hl 1 rfl) ?_
  refine lo_get E hK hw huRX2 4 hf24 rfl 1 rfl rfl (by decide) (v := .int (iI (M 4))) rfl dX2_copyFrom_34 ?_
  refine lo_put E hK hw huRX2 tyX2 tyX2_ok nmX2 4 hf24 rfl 0 rfl rfl (by decide) rfl rfl rfl rfl (Nat.le_of_ble_eq_true rfl) (ws' := [oX2 h (M 0) (M 1) (M 2) (M 3) (M 4) (L 5) (L 6) (L 7) (L 8) (L 9), oX2 h2 (M 0) (M 1) (M 2) (M 3) (M 4) (M 5) (M 6) (M 7) (M 8) (M 9)]) rfl dX2_copyFrom_37 (fun H locs hw => ?_)
  refine lv_aload_n Ex Eb dX2_copyFrom_40 rfl (lv_at hl 0 rfl) ?_
  refine lv_aload_n Ex Eb dX2_copyFrom_41 rfl (lv_at hl 1 rfl) ?_
  refine lo_get E hK hw huRX2 5 hf27 rfl 1 rfl rfl (by decide) (v := .int (iI (M 5))) rfl dX2_copyFrom_42 ?_
  refine lo_put E hK hw huRX2 tyX2 tyX2_ok nmX2 5 hf27 rfl 0 rfl rfl (by decide) rfl rfl rfl rfl (Nat.le_of_ble_eq_true rfl) (ws' := [oX2 h (M 0) (M 1) (M 2) (M 3) (M 4) (M 5) (L 6) (L 7) (L 8) (L 9), oX2 h2 (M 0) (M 1) (M 2) (M 3) (M 4) (M 5) (M 6) (M 7) (M 8) (M 9)]) rfl dX2_copyFrom_45 (fun H locs hw => ?_)
  refine lv_aload_n Ex Eb dX2_copyFrom_48 rfl (lv_at hl 0 rfl) ?_
  refine lv_aload_n Ex Eb dX2_copyFrom_49 rfl (lv_at hl 1 rfl) ?_
  refine lo_get E hK hw huRX2 6 hf30 rfl 1 rfl rfl (by decide) (v := .int (iI (M 6))) rfl dX2_copyFrom_50 ?_
  refine lo_put E hK hw huRX2 tyX2 tyX2_ok nmX2 6 hf30 rfl 0 rfl rfl (by decide) rfl rfl rfl rfl (Nat.le_of_ble_eq_true rfl) (ws' := [oX2 h (M 0) (M 1) (M 2) (M 3) (M 4) (M 5) (M 6) (L 7) (L 8) (L 9), oX2 h2 (M 0) (M 1) (M 2) (M 3) (M 4) (M 5) (M 6) (M 7) (M 8) (M 9)]) rfl dX2_copyFrom_53 (fun H locs hw => ?_)
  refine lv_aload_n Ex Eb dX2_copyFrom_56 rfl (lv_at hl 0 rfl) ?_
  refine lv_aload_n Ex Eb dX2_copyFrom_57 rfl (lv_at hl 1 rfl) ?_
  refine lo_get E hK hw huRX2 7 hf33 rfl 1 rfl rfl (by decide) (v := .int (iI (M 7))) rfl dX2_copyFrom_58 ?_
  refine lo_put E hK hw huRX2 tyX2 tyX2_ok nmX2 7 hf33 rfl 0 rfl rfl (by decide) rfl rfl rfl rfl (Nat.le_of_ble_eq_true rfl) (ws' := [oX2 h (M 0) (M 1) (M 2) (M 3) (M 4) (M 5) (M 6) (M 7) (L 8) (L 9), oX2 h2 (M 0) (M 1) (M 2) (M 3) (M 4) (M 5) (M 6) (M 7) (M 8) (M 9)]) rfl dX2_copyFrom_61 (fun H locs hw => ?_)
  refine lv_aload_n Ex Eb dX2_copyFrom_64 rfl (lv_at hl 0 rfl) ?_
  refine lv_aload_n Ex Eb dX2_copyFrom_65 rfl (lv_at hl 1 rfl) ?_
  refine lo_get E hK hw huRX2 8 hf36 rfl 1 rfl rfl (by decide) (v := .int (iI (M 8))) rfl dX2_copyFrom_66 ?_
  refine lo_put E hK hw huRX2 tyX2 tyX2_ok nmX2 8 hf36 rfl 0 rfl rfl (by decide) rfl rfl rfl rfl (Nat.le_of_ble_eq_true rfl) (ws' := [oX2 h (M 0) (M 1) (M 2) (M 3) (M 4) (M 5) (M 6) (M 7) (M 8) (L 9), oX2 h2 (M 0) (M 1) (M 2) (M 3) (M 4) (M 5) (M 6) (M 7) (M 8) (M 9)]) rfl dX2_copyFrom_69 (fun H locs hw => ?_)
  refine lv_aload_n Ex Eb dX2_copyFrom_72 rfl (lv_at hl 0 rfl) ?_
  refine lv_aload_n Ex Eb dX2_copyFrom_73 rfl (lv_at hl 1 rfl) ?_
  refine lo_get E hK hw huRX2 9 hf39 rfl 1 rfl rfl (by decide) (v := .int (iI (M 9))) rfl dX2_copyFrom_74 ?_
  refine lo_put E hK hw huRX2 tyX2 tyX2_ok nmX2 9 hf39 rfl 0 rfl rfl (by decide) rfl rfl rfl rfl (Nat.le_of_ble_eq_true rfl) (ws' := [oX2 h (M 0) (M 1) (M 2) (M 3) (M 4) (M 5) (M 6) (M 7) (M 8) (M 9), oX2 h2 (M 0) (M 1) (M 2) (M 3) (M 4) (M 5) (M 6) (M 7) (M 8) (M 9)]) rfl dX2_copyFrom_77 (fun H locs hw => ?_)
  exact lo_vret E hRt hLk hK hAe hw dX2_copyFrom_80 rfl ⟨rfl, rfl⟩
