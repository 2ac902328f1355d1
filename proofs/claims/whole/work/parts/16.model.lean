set_option maxHeartbeats 4000000 in
set_option maxRecDepth 100000 in
theorem kX8_of (l : Launch) (X : KX) (d : Nat → Nat) (M w : Nat → Int) (i k : Int) (hi : 0 ≤ i ∧ i < 6) (hk : 0 ≤ k ∧ k < 10) : CM l X yX8_of wsX8_of ({ frames := 0, cells := 0, slots := 0, locals := 0 }) [.ref (d 0), .int (iI i), .int (iI k)] ([oX8 (d 0) (M 0) (d 1) (d 2) (M 3) (d 3) (M 5) (d 4) (d 5) (d 6) (M 9) (d 7) (M 11) (M 12) (M 13) (M 14) (M 15) (M 16) (M 17) (M 18) (M 19) (M 20) (M 21) (M 22) (M 23) (M 24) (M 25) (M 26) (M 27) (M 28), arI X (d 1) 122 w]) (fun v9 w9 => v9 = some (.int (iI (wOf w i k))) ∧ w9 = [oX8 (d 0) (M 0) (d 1) (d 2) (M 3) (d 3) (M 5) (d 4) (d 5) (d 6) (M 9) (d 7) (M 11) (M 12) (M 13) (M 14) (M 15) (M 16) (M 17) (M 18) (M 19) (M 20) (M 21) (M 22) (M 23) (M 24) (M 25) (M 26) (M 27) (M 28), arI X (d 1) 122 w]) 0 0 := by
  refine lo_enter (cc := cX8_of) (maxL := 3) (ret := (some .int)) (lv := [(0, .ref (d 0)), (1, .int (iI i)), (2, .int (iI k))]) (by decide) rfl rfl (Nat.le_of_ble_eq_true rfl) ?_
  intro p9 e9 s9 m9 bl9 me9 c9 A9 ls hAe E hRt hLk hK hl hw
  have Ex := E.1
  have Eb := E.2.1
  have huRX8 : ∀ w ∈ u_ws RX8 TX8 29, w ∈ wsX8_of := by decide +kernel
  have hf9 : (Cond.fieldLink RX8 9 "LoanScheduleModel" "w" "[I").before _ s9 = true := E.2.2.2.2 _ (List.mem_of_getElem? (i := 1) rfl)
  refine lv_aload_n Ex Eb dX8_of_0 rfl (lv_at hl 0 rfl) ?_
  refine lo_get E hK hw huRX8 1 hf9 rfl 0 rfl rfl (by decide) (v := .ref (d 1)) rfl dX8_of_1 ?_
  refine lv_bipush (v := iI 62) Ex Eb dX8_of_4 rfl ?_
  refine lv_iload_n Ex Eb dX8_of_6 rfl (lv_at hl 1 rfl) ?_
  refine lv_bipush (v := iI 10) Ex Eb dX8_of_7 rfl ?_
  refine lo_imul E dX8_of_9 ?_
  refine lo_iadd E dX8_of_10 ?_
  refine lv_iload_n Ex Eb dX8_of_11 rfl (lv_at hl 2 rfl) ?_
  refine lo_iadd E dX8_of_12 ?_
  refine lo_iald E hK hw 1 rfl (by omega) dX8_of_13 ?_
  exact lo_iret E hRt hLk hK hAe hw dX8_of_14 rfl ⟨rfl, rfl⟩
set_option maxHeartbeats 4000000 in
set_option maxRecDepth 100000 in
theorem kX8_put (l : Launch) (X : KX) (d : Nat → Nat) (M w : Nat → Int) (i k v : Int) (hi : 0 ≤ i ∧ i < 6) (hk : 0 ≤ k ∧ k < 10) : CM l X yX8_put wsX8_put ({ frames := 0, cells := 0, slots := 0, locals := 0 }) [.ref (d 0), .int (iI i), .int (iI k), .int (iI v)] ([oX8 (d 0) (M 0) (d 1) (d 2) (M 3) (d 3) (M 5) (d 4) (d 5) (d 6) (M 9) (d 7) (M 11) (M 12) (M 13) (M 14) (M 15) (M 16) (M 17) (M 18) (M 19) (M 20) (M 21) (M 22) (M 23) (M 24) (M 25) (M 26) (M 27) (M 28), arI X (d 1) 122 w]) (fun v9 w9 => v9 = none ∧ w9 = [oX8 (d 0) (M 0) (d 1) (d 2) (M 3) (d 3) (M 5) (d 4) (d 5) (d 6) (M 9) (d 7) (M 11) (M 12) (M 13) (M 14) (M 15) (M 16) (M 17) (M 18) (M 19) (M 20) (M 21) (M 22) (M 23) (M 24) (M 25) (M 26) (M 27) (M 28), arI X (d 1) 122 (wPut w i k v)]) 0 0 := by
  refine lo_enter (cc := cX8_put) (maxL := 4) (ret := none) (lv := [(0, .ref (d 0)), (1, .int (iI i)), (2, .int (iI k)), (3, .int (iI v))]) (by decide) rfl rfl (Nat.le_of_ble_eq_true rfl) ?_
  intro p9 e9 s9 m9 bl9 me9 c9 A9 ls hAe E hRt hLk hK hl hw
  have Ex := E.1
  have Eb := E.2.1
  have huRX8 : ∀ w ∈ u_ws RX8 TX8 29, w ∈ wsX8_put := by decide +kernel
  have hf9 : (Cond.fieldLink RX8 9 "LoanScheduleModel" "w" "[I").before _ s9 = true := E.2.2.2.2 _ (List.mem_of_getElem? (i := 1) rfl)
  refine lv_aload_n Ex Eb dX8_put_0 rfl (lv_at hl 0 rfl) ?_
  refine lo_get E hK hw huRX8 1 hf9 rfl 0 rfl rfl (by decide) (v := .ref (d 1)) rfl dX8_put_1 ?_
  refine lv_bipush (v := iI 62) Ex Eb dX8_put_4 rfl ?_
  refine lv_iload_n Ex Eb dX8_put_6 rfl (lv_at hl 1 rfl) ?_
  refine lv_bipush (v := iI 10) Ex Eb dX8_put_7 rfl ?_
  refine lo_imul E dX8_put_9 ?_
  refine lo_iadd E dX8_put_10 ?_
  refine lv_iload_n Ex Eb dX8_put_11 rfl (lv_at hl 2 rfl) ?_
  refine lo_iadd E dX8_put_12 ?_
  refine lv_iload_n Ex Eb dX8_put_13 rfl (lv_at hl 3 rfl) ?_
  refine lo_iast E hK hw 1 rfl (by omega) (ws' := [oX8 (d 0) (M 0) (d 1) (d 2) (M 3) (d 3) (M 5) (d 4) (d 5) (d 6) (M 9) (d 7) (M 11) (M 12) (M 13) (M 14) (M 15) (M 16) (M 17) (M 18) (M 19) (M 20) (M 21) (M 22) (M 23) (M 24) (M 25) (M 26) (M 27) (M 28), arI X (d 1) 122 (uI w ((62 + (i * 10)) + k).toNat v)]) rfl dX8_put_14 (fun H locs hw => ?_)
  exact lo_vret E hRt hLk hK hAe hw dX8_put_15 rfl ⟨rfl, rfl⟩
set_option maxHeartbeats 4000000 in
set_option maxRecDepth 100000 in
theorem kX8_grow (l : Launch) (X : KX) (d : Nat → Nat) (M w : Nat → Int) (i k v : Int) (hi : 0 ≤ i ∧ i < 6) (hk : 0 ≤ k ∧ k < 10) : CM l X yX8_grow wsX8_grow ({ frames := 1, cells := 0, slots := 0, locals := 23 }) [.ref (d 0), .int (iI i), .int (iI k), .int (iI v)] ([oX8 (d 0) (M 0) (d 1) (d 2) (M 3) (d 3) (M 5) (d 4) (d 5) (d 6) (M 9) (d 7) (M 11) (M 12) (M 13) (M 14) (M 15) (M 16) (M 17) (M 18) (M 19) (M 20) (M 21) (M 22) (M 23) (M 24) (M 25) (M 26) (M 27) (M 28), arI X (d 1) 122 w]) (fun v9 w9 => v9 = none ∧ w9 = [oX8 (d 0) (M 0) (d 1) (d 2) (M 3) (d 3) (M 5) (d 4) (d 5) (d 6) (M 9) (d 7) (M 11) (M 12) (M 13) (M 14) (M 15) (M 16) (M 17) (M 18) (M 19) (M 20) (M 21) (M 22) (M 23) (M 24) (M 25) (M 26) (M 27) (M 28), arI X (d 1) 122 (wPut w i k (wOf w i k + v))]) 0 0 := by
  refine lo_enter (cc := cX8_grow) (maxL := 4) (ret := none) (lv := [(0, .ref (d 0)), (1, .int (iI i)), (2, .int (iI k)), (3, .int (iI v))]) (by decide) rfl rfl (Nat.le_of_ble_eq_true rfl) ?_
  intro p9 e9 s9 m9 bl9 me9 c9 A9 ls hAe E hRt hLk hK hl hw
  have Ex := E.1
  have Eb := E.2.1
  refine lv_aload_n Ex Eb dX8_grow_0 rfl (lv_at hl 0 rfl) ?_
  refine lv_iload_n Ex Eb dX8_grow_1 rfl (lv_at hl 1 rfl) ?_
  refine lv_iload_n Ex Eb dX8_grow_2 rfl (lv_at hl 2 rfl) ?_
  refine lv_aload_n Ex Eb dX8_grow_3 rfl (lv_at hl 0 rfl) ?_
  refine lv_iload_n Ex Eb dX8_grow_4 rfl (lv_at hl 1 rfl) ?_
  refine lv_iload_n Ex Eb dX8_grow_5 rfl (lv_at hl 2 rfl) ?_
  refine lo_callV (q0 := 0) (rest := [.int (iI k), .int (iI i), .ref (d 0)]) E hK hw (kX8_of l X d M w i k (by omega) (by omega)) (cwV 2 E.2.2.2.2 gX8_grow_X8_of rfl rfl rfl (by decide +kernel) ⟨Nat.le_of_ble_eq_true rfl, Nat.le_of_ble_eq_true rfl⟩) rfl rfl [0, 1] rfl (by decide) hl.1 rfl rfl (Nat.le_of_ble_eq_true rfl) dX8_grow_6 ⟨Nat.le_of_ble_eq_true rfl, Nat.le_of_ble_eq_true rfl⟩ (fun v w1 H locs hq hw => ?_)
  obtain ⟨rfl, rfl⟩ := hq
  have hw : lo_Wd X ([oX8 (d 0) (M 0) (d 1) (d 2) (M 3) (d 3) (M 5) (d 4) (d 5) (d 6) (M 9) (d 7) (M 11) (M 12) (M 13) (M 14) (M 15) (M 16) (M 17) (M 18) (M 19) (M 20) (M 21) (M 22) (M 23) (M 24) (M 25) (M 26) (M 27) (M 28), arI X (d 1) 122 w]) A9 s9.heap H locs := hw
  refine W.eq (g2 := F0 m9 9 ls [.int (iI (wOf w i k)), .int (iI k), .int (iI i), .ref (d 0)]) rfl ?_
  refine lv_iload_n Ex Eb dX8_grow_9 rfl (lv_at hl 3 rfl) ?_
  refine lo_iadd E dX8_grow_10 ?_
  refine lo_callV (q0 := 0) (rest := []) E hK hw (kX8_put l X d M w i k (wOf w i k + v) (by omega) (by omega)) (cwV 3 E.2.2.2.2 gX8_grow_X8_put rfl rfl rfl (by decide +kernel) ⟨Nat.le_of_ble_eq_true rfl, Nat.le_of_ble_eq_true rfl⟩) rfl rfl [0, 1] rfl (by decide) hl.1 rfl rfl (Nat.le_of_ble_eq_true rfl) dX8_grow_11 ⟨Nat.le_of_ble_eq_true rfl, Nat.le_of_ble_eq_true rfl⟩ (fun v w1 H locs hq hw => ?_)
  obtain ⟨rfl, rfl⟩ := hq
  have hw : lo_Wd X ([oX8 (d 0) (M 0) (d 1) (d 2) (M 3) (d 3) (M 5) (d 4) (d 5) (d 6) (M 9) (d 7) (M 11) (M 12) (M 13) (M 14) (M 15) (M 16) (M 17) (M 18) (M 19) (M 20) (M 21) (M 22) (M 23) (M 24) (M 25) (M 26) (M 27) (M 28), arI X (d 1) 122 (wPut w i k (wOf w i k + v))]) A9 s9.heap H locs := hw
  refine W.eq (g2 := F0 m9 14 ls []) rfl ?_
  exact lo_vret E hRt hLk hK hAe hw dX8_grow_14 rfl ⟨rfl, rfl⟩
set_option maxHeartbeats 4000000 in
set_option maxRecDepth 100000 in
theorem kX8_isRunning (l : Launch) (X : KX) (d : Nat → Nat) (M w : Nat → Int) (i : Int) (hi : 0 ≤ i ∧ i < 6) (hb : i32 (wOf w i 1)) : CM l X yX8_isRunning wsX8_isRunning ({ frames := 1, cells := 0, slots := 0, locals := 22 }) [.ref (d 0), .int (iI i)] ([oX8 (d 0) (M 0) (d 1) (d 2) (M 3) (d 3) (M 5) (d 4) (d 5) (d 6) (M 9) (d 7) (M 11) (M 12) (M 13) (M 14) (M 15) (M 16) (M 17) (M 18) (M 19) (M 20) (M 21) (M 22) (M 23) (M 24) (M 25) (M 26) (M 27) (M 28), arI X (d 1) 122 w]) (fun v9 w9 => ∃ r : Int, ((r = 1 ∧ 0 < wOf w i 1) ∨ (r = 0 ∧ wOf w i 1 ≤ 0)) ∧ v9 = some (.int (iI r)) ∧ w9 = [oX8 (d 0) (M 0) (d 1) (d 2) (M 3) (d 3) (M 5) (d 4) (d 5) (d 6) (M 9) (d 7) (M 11) (M 12) (M 13) (M 14) (M 15) (M 16) (M 17) (M 18) (M 19) (M 20) (M 21) (M 22) (M 23) (M 24) (M 25) (M 26) (M 27) (M 28), arI X (d 1) 122 w]) 0 0 := by
  refine lo_enter (cc := cX8_isRunning) (maxL := 2) (ret := (some .boolean)) (lv := [(0, .ref (d 0)), (1, .int (iI i))]) (by decide) rfl rfl (Nat.le_of_ble_eq_true rfl) ?_
  intro p9 e9 s9 m9 bl9 me9 c9 A9 ls hAe E hRt hLk hK hl hw
  have Ex := E.1
  have Eb := E.2.1
  refine lv_aload_n Ex Eb dX8_isRunning_0 rfl (lv_at hl 0 rfl) ?_
  refine lv_iload_n Ex Eb dX8_isRunning_1 rfl (lv_at hl 1 rfl) ?_
  refine lv_iconst (v := iI 1) Ex Eb dX8_isRunning_2 rfl ?_
  refine lo_callV (q0 := 0) (rest := []) E hK hw (kX8_of l X d M w i 1 (by omega) (by omega)) (cwV 2 E.2.2.2.2 gX8_isRunning_X8_of rfl rfl rfl (by decide +kernel) ⟨Nat.le_of_ble_eq_true rfl, Nat.le_of_ble_eq_true rfl⟩) rfl rfl [0, 1] rfl (by decide) hl.1 rfl rfl (Nat.le_of_ble_eq_true rfl) dX8_isRunning_3 ⟨Nat.le_of_ble_eq_true rfl, Nat.le_of_ble_eq_true rfl⟩ (fun v w1 H locs hq hw => ?_)
  obtain ⟨rfl, rfl⟩ := hq
  have hw : lo_Wd X ([oX8 (d 0) (M 0) (d 1) (d 2) (M 3) (d 3) (M 5) (d 4) (d 5) (d 6) (M 9) (d 7) (M 11) (M 12) (M 13) (M 14) (M 15) (M 16) (M 17) (M 18) (M 19) (M 20) (M 21) (M 22) (M 23) (M 24) (M 25) (M 26) (M 27) (M 28), arI X (d 1) 122 w]) A9 s9.heap H locs := hw
  refine W.eq (g2 := F0 m9 6 ls [.int (iI (wOf w i 1))]) rfl ?_
  refine lo_if_le (tgt := 13) E dX8_isRunning_6 (by decide) (by omega) (fun c1 => ?_) (fun c1 => ?_)
  · skip
    refine lv_iconst (v := iI 0) Ex Eb dX8_isRunning_13 rfl ?_
    exact lo_zret E hRt hLk hK hAe hw dX8_isRunning_14 rfl rfl ⟨0, (by omega), rfl, rfl⟩
  · skip
    refine lv_iconst (v := iI 1) Ex Eb dX8_isRunning_9 rfl ?_
    refine lv_goto (tgt := 14) Ex Eb dX8_isRunning_10 (by decide) ?_
    exact lo_zret E hRt hLk hK hAe hw dX8_isRunning_14 rfl rfl ⟨1, (by omega), rfl, rfl⟩
set_option maxHeartbeats 4000000 in
set_option maxRecDepth 100000 in
theorem kX8_begin (l : Launch) (X : KX) (d : Nat → Nat) (M : Nat → Int) (b c : Int) : CM l X yX8_begin wsX8_begin ({ frames := 0, cells := 0, slots := 0, locals := 0 }) [.ref (d 0), .long (iL b), .long (iL c)] ([oX8 (d 0) (M 0) (d 1) (d 2) (M 3) (d 3) (M 5) (d 4) (d 5) (d 6) (M 9) (d 7) (M 11) (M 12) (M 13) (M 14) (M 15) (M 16) (M 17) (M 18) (M 19) (M 20) (M 21) (M 22) (M 23) (M 24) (M 25) (M 26) (M 27) (M 28)]) (fun v9 w9 => v9 = none ∧ w9 = [oX8 (d 0) (bgM M b c 0) (d 1) (d 2) (bgM M b c 3) (d 3) (bgM M b c 5) (d 4) (d 5) (d 6) (bgM M b c 9) (d 7) (bgM M b c 11) (bgM M b c 12) (bgM M b c 13) (bgM M b c 14) (bgM M b c 15) (bgM M b c 16) (bgM M b c 17) (bgM M b c 18) (bgM M b c 19) (bgM M b c 20) (bgM M b c 21) (bgM M b c 22) (bgM M b c 23) (bgM M b c 24) (bgM M b c 25) (bgM M b c 26) (bgM M b c 27) (bgM M b c 28)]) 0 0 := by
  refine lo_enter (cc := cX8_begin) (maxL := 5) (ret := none) (lv := [(0, .ref (d 0)), (1, .long (iL b)), (3, .long (iL c))]) (by decide) rfl rfl (Nat.le_of_ble_eq_true rfl) ?_
  intro p9 e9 s9 m9 bl9 me9 c9 A9 ls hAe E hRt hLk hK hl hw
  have Ex := E.1
  have Eb := E.2.1
  have huRX8 : ∀ w ∈ u_ws RX8 TX8 29, w ∈ wsX8_begin := by decide +kernel
  have hf78 : (Cond.fieldLink RX8 78 "LoanScheduleModel" "walkBalance" "J").before _ s9 = true := E.2.2.2.2 _ (List.mem_of_getElem? (i := 1) rfl)
  have hf82 : (Cond.fieldLink RX8 82 "LoanScheduleModel" "walkCarry" "J").before _ s9 = true := E.2.2.2.2 _ (List.mem_of_getElem? (i := 2) rfl)
  have hf85 : (Cond.fieldLink RX8 85 "LoanScheduleModel" "walkMonths" "I").before _ s9 = true := E.2.2.2.2 _ (List.mem_of_getElem? (i := 3) rfl)
  have hf88 : (Cond.fieldLink RX8 88 "LoanScheduleModel" "walkCost" "J").before _ s9 = true := E.2.2.2.2 _ (List.mem_of_getElem? (i := 4) rfl)
  have hf91 : (Cond.fieldLink RX8 91 "LoanScheduleModel" "walkDue" "J").before _ s9 = true := E.2.2.2.2 _ (List.mem_of_getElem? (i := 5) rfl)
  have hf94 : (Cond.fieldLink RX8 94 "LoanScheduleModel" "walkInterest" "J").before _ s9 = true := E.2.2.2.2 _ (List.mem_of_getElem? (i := 6) rfl)
  refine lv_aload_n Ex Eb dX8_begin_0 rfl (lv_at hl 0 rfl) ?_
  refine lv_lload_n Ex Eb dX8_begin_1 rfl (lv_at hl 1 rfl) ?_
  refine lo_put E hK hw huRX8 tyX8 tyX8_ok nmX8 12 hf78 rfl 0 rfl rfl (by decide) rfl rfl rfl rfl (Nat.le_of_ble_eq_true rfl) (ws' := [oX8 (d 0) (M 0) (d 1) (d 2) (M 3) (d 3) (M 5) (d 4) (d 5) (d 6) (M 9) (d 7) (M 11) b (M 13) (M 14) (M 15) (M 16) (M 17) (M 18) (M 19) (M 20) (M 21) (M 22) (M 23) (M 24) (M 25) (M 26) (M 27) (M 28)]) rfl dX8_begin_2 (fun H locs hw => ?_)
  refine lv_aload_n Ex Eb dX8_begin_5 rfl (lv_at hl 0 rfl) ?_
  refine lv_lload_n Ex Eb dX8_begin_6 rfl (lv_at hl 2 rfl) ?_
  refine lo_put E hK hw huRX8 tyX8 tyX8_ok nmX8 13 hf82 rfl 0 rfl rfl (by decide) rfl rfl rfl rfl (Nat.le_of_ble_eq_true rfl) (ws' := [oX8 (d 0) (M 0) (d 1) (d 2) (M 3) (d 3) (M 5) (d 4) (d 5) (d 6) (M 9) (d 7) (M 11) b c (M 14) (M 15) (M 16) (M 17) (M 18) (M 19) (M 20) (M 21) (M 22) (M 23) (M 24) (M 25) (M 26) (M 27) (M 28)]) rfl dX8_begin_7 (fun H locs hw => ?_)
  refine lv_aload_n Ex Eb dX8_begin_10 rfl (lv_at hl 0 rfl) ?_
  refine lv_iconst (v := iI 0) Ex Eb dX8_begin_11 rfl ?_
  refine lo_put E hK hw huRX8 tyX8 tyX8_ok nmX8 16 hf85 rfl 0 rfl rfl (by decide) rfl rfl rfl rfl (Nat.le_of_ble_eq_true rfl) (ws' := [oX8 (d 0) (M 0) (d 1) (d 2) (M 3) (d 3) (M 5) (d 4) (d 5) (d 6) (M 9) (d 7) (M 11) b c (M 14) (M 15) 0 (M 17) (M 18) (M 19) (M 20) (M 21) (M 22) (M 23) (M 24) (M 25) (M 26) (M 27) (M 28)]) rfl dX8_begin_12 (fun H locs hw => ?_)
  refine lv_aload_n Ex Eb dX8_begin_15 rfl (lv_at hl 0 rfl) ?_
  refine lv_lconst (v := iL 0) Ex Eb dX8_begin_16 rfl ?_
  refine lo_put E hK hw huRX8 tyX8 tyX8_ok nmX8 17 hf88 rfl 0 rfl rfl (by decide) rfl rfl rfl rfl (Nat.le_of_ble_eq_true rfl) (ws' := [oX8 (d 0) (M 0) (d 1) (d 2) (M 3) (d 3) (M 5) (d 4) (d 5) (d 6) (M 9) (d 7) (M 11) b c (M 14) (M 15) 0 0 (M 18) (M 19) (M 20) (M 21) (M 22) (M 23) (M 24) (M 25) (M 26) (M 27) (M 28)]) rfl dX8_begin_17 (fun H locs hw => ?_)
  refine lv_aload_n Ex Eb dX8_begin_20 rfl (lv_at hl 0 rfl) ?_
  refine lv_lconst (v := iL 0) Ex Eb dX8_begin_21 rfl ?_
  refine lo_put E hK hw huRX8 tyX8 tyX8_ok nmX8 15 hf91 rfl 0 rfl rfl (by decide) rfl rfl rfl rfl (Nat.le_of_ble_eq_true rfl) (ws' := [oX8 (d 0) (M 0) (d 1) (d 2) (M 3) (d 3) (M 5) (d 4) (d 5) (d 6) (M 9) (d 7) (M 11) b c (M 14) 0 0 0 (M 18) (M 19) (M 20) (M 21) (M 22) (M 23) (M 24) (M 25) (M 26) (M 27) (M 28)]) rfl dX8_begin_22 (fun H locs hw => ?_)
  refine lv_aload_n Ex Eb dX8_begin_25 rfl (lv_at hl 0 rfl) ?_
  refine lv_lconst (v := iL 0) Ex Eb dX8_begin_26 rfl ?_
  refine lo_put E hK hw huRX8 tyX8 tyX8_ok nmX8 14 hf94 rfl 0 rfl rfl (by decide) rfl rfl rfl rfl (Nat.le_of_ble_eq_true rfl) (ws' := [oX8 (d 0) (M 0) (d 1) (d 2) (M 3) (d 3) (M 5) (d 4) (d 5) (d 6) (M 9) (d 7) (M 11) b c 0 0 0 0 (M 18) (M 19) (M 20) (M 21) (M 22) (M 23) (M 24) (M 25) (M 26) (M 27) (M 28)]) rfl dX8_begin_27 (fun H locs hw => ?_)
  exact lo_vret E hRt hLk hK hAe hw dX8_begin_30 rfl ⟨rfl, rfl⟩
set_option maxHeartbeats 4000000 in
set_option maxRecDepth 100000 in
theorem kX8_beginWith (l : Launch) (X : KX) (d : Nat → Nat) (M w : Nat → Int) (i : Int) (hi : 0 ≤ i ∧ i < 6) (hb : i32 (wOf w i 1)) (hc : i32 (wOf w i 5)) : CM l X yX8_beginWith wsX8_beginWith ({ frames := 1, cells := 0, slots := 0, locals := 24 }) [.ref (d 0), .int (iI i)] ([oX8 (d 0) (M 0) (d 1) (d 2) (M 3) (d 3) (M 5) (d 4) (d 5) (d 6) (M 9) (d 7) (M 11) (M 12) (M 13) (M 14) (M 15) (M 16) (M 17) (M 18) (M 19) (M 20) (M 21) (M 22) (M 23) (M 24) (M 25) (M 26) (M 27) (M 28), arI X (d 1) 122 w]) (fun v9 w9 => v9 = none ∧ w9 = [oX8 (d 0) (bgM M (wOf w i 1) (wOf w i 5) 0) (d 1) (d 2) (bgM M (wOf w i 1) (wOf w i 5) 3) (d 3) (bgM M (wOf w i 1) (wOf w i 5) 5) (d 4) (d 5) (d 6) (bgM M (wOf w i 1) (wOf w i 5) 9) (d 7) (bgM M (wOf w i 1) (wOf w i 5) 11) (bgM M (wOf w i 1) (wOf w i 5) 12) (bgM M (wOf w i 1) (wOf w i 5) 13) (bgM M (wOf w i 1) (wOf w i 5) 14) (bgM M (wOf w i 1) (wOf w i 5) 15) (bgM M (wOf w i 1) (wOf w i 5) 16) (bgM M (wOf w i 1) (wOf w i 5) 17) (bgM M (wOf w i 1) (wOf w i 5) 18) (bgM M (wOf w i 1) (wOf w i 5) 19) (bgM M (wOf w i 1) (wOf w i 5) 20) (bgM M (wOf w i 1) (wOf w i 5) 21) (bgM M (wOf w i 1) (wOf w i 5) 22) (bgM M (wOf w i 1) (wOf w i 5) 23) (bgM M (wOf w i 1) (wOf w i 5) 24) (bgM M (wOf w i 1) (wOf w i 5) 25) (bgM M (wOf w i 1) (wOf w i 5) 26) (bgM M (wOf w i 1) (wOf w i 5) 27) (bgM M (wOf w i 1) (wOf w i 5) 28), arI X (d 1) 122 w]) 0 0 := by
  refine lo_enter (cc := cX8_beginWith) (maxL := 2) (ret := none) (lv := [(0, .ref (d 0)), (1, .int (iI i))]) (by decide) rfl rfl (Nat.le_of_ble_eq_true rfl) ?_
  intro p9 e9 s9 m9 bl9 me9 c9 A9 ls hAe E hRt hLk hK hl hw
  have Ex := E.1
  have Eb := E.2.1
  refine lv_aload_n Ex Eb dX8_beginWith_0 rfl (lv_at hl 0 rfl) ?_
  refine lv_aload_n Ex Eb dX8_beginWith_1 rfl (lv_at hl 0 rfl) ?_
  refine lv_iload_n Ex Eb dX8_beginWith_2 rfl (lv_at hl 1 rfl) ?_
  refine lv_iconst (v := iI 1) Ex Eb dX8_beginWith_3 rfl ?_
  refine lo_callV (q0 := 0) (rest := [.ref (d 0)]) E hK hw (kX8_of l X d M w i 1 (by omega) (by omega)) (cwV 2 E.2.2.2.2 gX8_beginWith_X8_of rfl rfl rfl (by decide +kernel) ⟨Nat.le_of_ble_eq_true rfl, Nat.le_of_ble_eq_true rfl⟩) rfl rfl [0, 1] rfl (by decide) hl.1 rfl rfl (Nat.le_of_ble_eq_true rfl) dX8_beginWith_4 ⟨Nat.le_of_ble_eq_true rfl, Nat.le_of_ble_eq_true rfl⟩ (fun v w1 H locs hq hw => ?_)
  obtain ⟨rfl, rfl⟩ := hq
  have hw : lo_Wd X ([oX8 (d 0) (M 0) (d 1) (d 2) (M 3) (d 3) (M 5) (d 4) (d 5) (d 6) (M 9) (d 7) (M 11) (M 12) (M 13) (M 14) (M 15) (M 16) (M 17) (M 18) (M 19) (M 20) (M 21) (M 22) (M 23) (M 24) (M 25) (M 26) (M 27) (M 28), arI X (d 1) 122 w]) A9 s9.heap H locs := hw
  refine W.eq (g2 := F0 m9 7 ls [.int (iI (wOf w i 1)), .ref (d 0)]) rfl ?_
  refine lo_i2l E dX8_beginWith_7 (by omega) ?_
  refine lv_aload_n Ex Eb dX8_beginWith_8 rfl (lv_at hl 0 rfl) ?_
  refine lv_iload_n Ex Eb dX8_beginWith_9 rfl (lv_at hl 1 rfl) ?_
  refine lv_iconst (v := iI 5) Ex Eb dX8_beginWith_10 rfl ?_
  refine lo_callV (q0 := 0) (rest := [.long (iL (wOf w i 1)), .ref (d 0)]) E hK hw (kX8_of l X d M w i 5 (by omega) (by omega)) (cwV 2 E.2.2.2.2 gX8_beginWith_X8_of rfl rfl rfl (by decide +kernel) ⟨Nat.le_of_ble_eq_true rfl, Nat.le_of_ble_eq_true rfl⟩) rfl rfl [0, 1] rfl (by decide) hl.1 rfl rfl (Nat.le_of_ble_eq_true rfl) dX8_beginWith_11 ⟨Nat.le_of_ble_eq_true rfl, Nat.le_of_ble_eq_true rfl⟩ (fun v w1 H locs hq hw => ?_)
  obtain ⟨rfl, rfl⟩ := hq
  have hw : lo_Wd X ([oX8 (d 0) (M 0) (d 1) (d 2) (M 3) (d 3) (M 5) (d 4) (d 5) (d 6) (M 9) (d 7) (M 11) (M 12) (M 13) (M 14) (M 15) (M 16) (M 17) (M 18) (M 19) (M 20) (M 21) (M 22) (M 23) (M 24) (M 25) (M 26) (M 27) (M 28), arI X (d 1) 122 w]) A9 s9.heap H locs := hw
  refine W.eq (g2 := F0 m9 14 ls [.int (iI (wOf w i 5)), .long (iL (wOf w i 1)), .ref (d 0)]) rfl ?_
  refine lo_i2l E dX8_beginWith_14 (by omega) ?_
  refine lo_callV (q0 := 0) (rest := []) E hK hw (kX8_begin l X d M (wOf w i 1) (wOf w i 5) ) (cwV 2 E.2.2.2.2 gX8_beginWith_X8_begin rfl rfl rfl (by decide +kernel) ⟨Nat.le_of_ble_eq_true rfl, Nat.le_of_ble_eq_true rfl⟩) rfl rfl [0] rfl (by decide) hl.1 rfl rfl (Nat.le_of_ble_eq_true rfl) dX8_beginWith_15 ⟨Nat.le_of_ble_eq_true rfl, Nat.le_of_ble_eq_true rfl⟩ (fun v w1 H locs hq hw => ?_)
  obtain ⟨rfl, rfl⟩ := hq
  have hw : lo_Wd X ([oX8 (d 0) (bgM M (wOf w i 1) (wOf w i 5) 0) (d 1) (d 2) (bgM M (wOf w i 1) (wOf w i 5) 3) (d 3) (bgM M (wOf w i 1) (wOf w i 5) 5) (d 4) (d 5) (d 6) (bgM M (wOf w i 1) (wOf w i 5) 9) (d 7) (bgM M (wOf w i 1) (wOf w i 5) 11) (bgM M (wOf w i 1) (wOf w i 5) 12) (bgM M (wOf w i 1) (wOf w i 5) 13) (bgM M (wOf w i 1) (wOf w i 5) 14) (bgM M (wOf w i 1) (wOf w i 5) 15) (bgM M (wOf w i 1) (wOf w i 5) 16) (bgM M (wOf w i 1) (wOf w i 5) 17) (bgM M (wOf w i 1) (wOf w i 5) 18) (bgM M (wOf w i 1) (wOf w i 5) 19) (bgM M (wOf w i 1) (wOf w i 5) 20) (bgM M (wOf w i 1) (wOf w i 5) 21) (bgM M (wOf w i 1) (wOf w i 5) 22) (bgM M (wOf w i 1) (wOf w i 5) 23) (bgM M (wOf w i 1) (wOf w i 5) 24) (bgM M (wOf w i 1) (wOf w i 5) 25) (bgM M (wOf w i 1) (wOf w i 5) 26) (bgM M (wOf w i 1) (wOf w i 5) 27) (bgM M (wOf w i 1) (wOf w i 5) 28), arI X (d 1) 122 w]) A9 s9.heap H locs := hw
  refine W.eq (g2 := F0 m9 18 ls []) rfl ?_
  exact lo_vret E hRt hLk hK hAe hw dX8_beginWith_18 rfl ⟨rfl, rfl⟩
set_option maxHeartbeats 4000000 in
set_option maxRecDepth 100000 in
theorem kX8_step (l : Launch) (X : KX) (d : Nat → Nat) (M : Nat → Int) (r A m : Int) (hb : 0 ≤ M 12 ∧ M 12 ≤ 1000000000) (hc : 0 ≤ M 13 ∧ M 13 < 120000) (hr : 0 ≤ r ∧ r ≤ 3000) (hA : 0 ≤ A ∧ A ≤ 2000000000) (hm : i32 m) : CM l X yX8_step wsX8_step ({ frames := 0, cells := 0, slots := 0, locals := 0 }) [.ref (d 0), .int (iI r), .long (iL A), .int (iI m)] ([oX8 (d 0) (M 0) (d 1) (d 2) (M 3) (d 3) (M 5) (d 4) (d 5) (d 6) (M 9) (d 7) (M 11) (M 12) (M 13) (M 14) (M 15) (M 16) (M 17) (M 18) (M 19) (M 20) (M 21) (M 22) (M 23) (M 24) (M 25) (M 26) (M 27) (M 28)]) (fun v9 w9 => v9 = none ∧ w9 = [oX8 (d 0) (stM M r A m 0) (d 1) (d 2) (stM M r A m 3) (d 3) (stM M r A m 5) (d 4) (d 5) (d 6) (stM M r A m 9) (d 7) (stM M r A m 11) (stM M r A m 12) (stM M r A m 13) (stM M r A m 14) (stM M r A m 15) (stM M r A m 16) (stM M r A m 17) (stM M r A m 18) (stM M r A m 19) (stM M r A m 20) (stM M r A m 21) (stM M r A m 22) (stM M r A m 23) (stM M r A m 24) (stM M r A m 25) (stM M r A m 26) (stM M r A m 27) (stM M r A m 28)]) 0 0 := by
  refine lo_enter (cc := cX8_step) (maxL := 9) (ret := none) (lv := [(0, .ref (d 0)), (1, .int (iI r)), (2, .long (iL A)), (4, .int (iI m))]) (by decide) rfl rfl (Nat.le_of_ble_eq_true rfl) ?_
  intro p9 e9 s9 m9 bl9 me9 c9 A9 ls hAe E hRt hLk hK hl hw
  have Ex := E.1
  have Eb := E.2.1
  have huRX8 : ∀ w ∈ u_ws RX8 TX8 29, w ∈ wsX8_step := by decide +kernel
  have hf78 : (Cond.fieldLink RX8 78 "LoanScheduleModel" "walkBalance" "J").before _ s9 = true := E.2.2.2.2 _ (List.mem_of_getElem? (i := 1) rfl)
  have hf82 : (Cond.fieldLink RX8 82 "LoanScheduleModel" "walkCarry" "J").before _ s9 = true := E.2.2.2.2 _ (List.mem_of_getElem? (i := 2) rfl)
  have hc101 : (Cond.constantLong RX8 101 (120000)).before _ s9 = true := E.2.2.2.2 _ (List.mem_of_getElem? (i := 3) rfl)
  have hf94 : (Cond.fieldLink RX8 94 "LoanScheduleModel" "walkInterest" "J").before _ s9 = true := E.2.2.2.2 _ (List.mem_of_getElem? (i := 4) rfl)
  have hf91 : (Cond.fieldLink RX8 91 "LoanScheduleModel" "walkDue" "J").before _ s9 = true := E.2.2.2.2 _ (List.mem_of_getElem? (i := 5) rfl)
  have hf88 : (Cond.fieldLink RX8 88 "LoanScheduleModel" "walkCost" "J").before _ s9 = true := E.2.2.2.2 _ (List.mem_of_getElem? (i := 6) rfl)
  have hf85 : (Cond.fieldLink RX8 85 "LoanScheduleModel" "walkMonths" "I").before _ s9 = true := E.2.2.2.2 _ (List.mem_of_getElem? (i := 7) rfl)
  have hmb := lo_mb hb.1 hr.1 hr.2
  have hfi := fI_r hb.1 hr.1 hr.2 hc.1 hc.2
  have hfc := fC_r (M 12) r (M 13)
  have hfw : fW (M 12) r (M 13) = M 12 + (M 12 * r + M 13) / 120000 := rfl
  have hfe : fI (M 12) r (M 13) = (M 12 * r + M 13) / 120000 := rfl
  refine lv_aload_n Ex Eb dX8_step_0 rfl (lv_at hl 0 rfl) ?_
  refine lo_get E hK hw huRX8 12 hf78 rfl 0 rfl rfl (by decide) (v := .long (iL (M 12))) rfl dX8_step_1 ?_
  refine lv_iload_n Ex Eb dX8_step_4 rfl (lv_at hl 1 rfl) ?_
  refine lo_i2l E dX8_step_5 (by omega) ?_
  refine lo_lmul E dX8_step_6 ?_
  refine lv_aload_n Ex Eb dX8_step_7 rfl (lv_at hl 0 rfl) ?_
  refine lo_get E hK hw huRX8 13 hf82 rfl 0 rfl rfl (by decide) (v := .long (iL (M 13))) rfl dX8_step_8 ?_
  refine lo_ladd E dX8_step_11 ?_
  refine lv_lstore (lv' := [(5, .long (iL (((M 12) * r) + (M 13)))), (0, .ref (d 0)), (1, .int (iI r)), (2, .long (iL A)), (4, .int (iI m))]) Ex Eb dX8_step_12 hl (by decide) rfl (fun ls hl => ?_)
  refine lv_aload_n Ex Eb dX8_step_14 rfl (lv_at hl 1 rfl) ?_
  refine lv_lload Ex Eb dX8_step_15 (lv_at hl 0 rfl) ?_
  refine lo_ldc2 (z := 120000) E hc101 dX8_step_17 rfl ?_
  refine lo_ldiv E dX8_step_20 (by omega) (by omega) ?_
  refine lo_put E hK hw huRX8 tyX8 tyX8_ok nmX8 14 hf94 rfl 0 rfl rfl (by decide) rfl rfl rfl rfl (Nat.le_of_ble_eq_true rfl) (ws' := [oX8 (d 0) (M 0) (d 1) (d 2) (M 3) (d 3) (M 5) (d 4) (d 5) (d 6) (M 9) (d 7) (M 11) (M 12) (M 13) ((((M 12) * r) + (M 13)) / 120000) (M 15) (M 16) (M 17) (M 18) (M 19) (M 20) (M 21) (M 22) (M 23) (M 24) (M 25) (M 26) (M 27) (M 28)]) rfl dX8_step_21 (fun H locs hw => ?_)
  refine lv_aload_n Ex Eb dX8_step_24 rfl (lv_at hl 1 rfl) ?_
  refine lv_lload Ex Eb dX8_step_25 (lv_at hl 0 rfl) ?_
  refine lo_ldc2 (z := 120000) E hc101 dX8_step_27 rfl ?_
  refine lo_lrem E dX8_step_30 (by omega) (by omega) ?_
  refine lo_put E hK hw huRX8 tyX8 tyX8_ok nmX8 13 hf82 rfl 0 rfl rfl (by decide) rfl rfl rfl rfl (Nat.le_of_ble_eq_true rfl) (ws' := [oX8 (d 0) (M 0) (d 1) (d 2) (M 3) (d 3) (M 5) (d 4) (d 5) (d 6) (M 9) (d 7) (M 11) (M 12) ((((M 12) * r) + (M 13)) % 120000) ((((M 12) * r) + (M 13)) / 120000) (M 15) (M 16) (M 17) (M 18) (M 19) (M 20) (M 21) (M 22) (M 23) (M 24) (M 25) (M 26) (M 27) (M 28)]) rfl dX8_step_31 (fun H locs hw => ?_)
  refine lv_aload_n Ex Eb dX8_step_34 rfl (lv_at hl 1 rfl) ?_
  refine lo_get E hK hw huRX8 12 hf78 rfl 0 rfl rfl (by decide) (v := .long (iL (M 12))) rfl dX8_step_35 ?_
  refine lv_aload_n Ex Eb dX8_step_38 rfl (lv_at hl 1 rfl) ?_
  refine lo_get E hK hw huRX8 14 hf94 rfl 0 rfl rfl (by decide) (v := .long (iL ((((M 12) * r) + (M 13)) / 120000))) rfl dX8_step_39 ?_
  refine lo_ladd E dX8_step_42 ?_
  refine lv_lstore (lv' := [(7, .long (iL ((M 12) + ((((M 12) * r) + (M 13)) / 120000)))), (5, .long (iL (((M 12) * r) + (M 13)))), (0, .ref (d 0)), (1, .int (iI r)), (2, .long (iL A)), (4, .int (iI m))]) Ex Eb dX8_step_43 hl (by decide) rfl (fun ls hl => ?_)
  refine lv_aload_n Ex Eb dX8_step_45 rfl (lv_at hl 2 rfl) ?_
  refine lv_lload Ex Eb dX8_step_46 (lv_at hl 0 rfl) ?_
  refine lv_lload_n Ex Eb dX8_step_48 rfl (lv_at hl 4 rfl) ?_
  refine lo_lcmp E dX8_step_49 (by omega) (by omega) (fun zc1 rzc1 dzc1 => ?_)
  refine lo_if_le (tgt := 59) E dX8_step_50 (by decide) (by omega) (fun c2 => ?_) (fun c2 => ?_)
  · skip
    refine lv_lload Ex Eb dX8_step_59 (lv_at hl 0 rfl) ?_
    refine lv_goto (tgt := 65) Ex Eb dX8_step_61 (by decide) ?_
    refine lo_put E hK hw huRX8 tyX8 tyX8_ok nmX8 15 hf91 rfl 0 rfl rfl (by decide) rfl rfl rfl rfl (Nat.le_of_ble_eq_true rfl) (ws' := [oX8 (d 0) (M 0) (d 1) (d 2) (M 3) (d 3) (M 5) (d 4) (d 5) (d 6) (M 9) (d 7) (M 11) (M 12) ((((M 12) * r) + (M 13)) % 120000) ((((M 12) * r) + (M 13)) / 120000) ((M 12) + ((((M 12) * r) + (M 13)) / 120000)) (M 16) (M 17) (M 18) (M 19) (M 20) (M 21) (M 22) (M 23) (M 24) (M 25) (M 26) (M 27) (M 28)]) rfl dX8_step_65 (fun H locs hw => ?_)
    refine lv_aload_n Ex Eb dX8_step_68 rfl (lv_at hl 2 rfl) ?_
    refine lv_lload Ex Eb dX8_step_69 (lv_at hl 0 rfl) ?_
    refine lv_aload_n Ex Eb dX8_step_71 rfl (lv_at hl 2 rfl) ?_
    refine lo_get E hK hw huRX8 15 hf91 rfl 0 rfl rfl (by decide) (v := .long (iL ((M 12) + ((((M 12) * r) + (M 13)) / 120000)))) rfl dX8_step_72 ?_
    refine lo_lsub E dX8_step_75 ?_
    refine lo_put E hK hw huRX8 tyX8 tyX8_ok nmX8 12 hf78 rfl 0 rfl rfl (by decide) rfl rfl rfl rfl (Nat.le_of_ble_eq_true rfl) (ws' := [oX8 (d 0) (M 0) (d 1) (d 2) (M 3) (d 3) (M 5) (d 4) (d 5) (d 6) (M 9) (d 7) (M 11) (((M 12) + ((((M 12) * r) + (M 13)) / 120000)) - ((M 12) + ((((M 12) * r) + (M 13)) / 120000))) ((((M 12) * r) + (M 13)) % 120000) ((((M 12) * r) + (M 13)) / 120000) ((M 12) + ((((M 12) * r) + (M 13)) / 120000)) (M 16) (M 17) (M 18) (M 19) (M 20) (M 21) (M 22) (M 23) (M 24) (M 25) (M 26) (M 27) (M 28)]) rfl dX8_step_76 (fun H locs hw => ?_)
    refine lv_aload_n Ex Eb dX8_step_79 rfl (lv_at hl 2 rfl) ?_
    refine lv_dup Ex Eb dX8_step_80 rfl ?_
    refine lo_get E hK hw huRX8 17 hf88 rfl 0 rfl rfl (by decide) (v := .long (iL (M 17))) rfl dX8_step_81 ?_
    refine lv_aload_n Ex Eb dX8_step_84 rfl (lv_at hl 2 rfl) ?_
    refine lo_get E hK hw huRX8 14 hf94 rfl 0 rfl rfl (by decide) (v := .long (iL ((((M 12) * r) + (M 13)) / 120000))) rfl dX8_step_85 ?_
    refine lo_ladd E dX8_step_88 ?_
    refine lo_put E hK hw huRX8 tyX8 tyX8_ok nmX8 17 hf88 rfl 0 rfl rfl (by decide) rfl rfl rfl rfl (Nat.le_of_ble_eq_true rfl) (ws' := [oX8 (d 0) (M 0) (d 1) (d 2) (M 3) (d 3) (M 5) (d 4) (d 5) (d 6) (M 9) (d 7) (M 11) (((M 12) + ((((M 12) * r) + (M 13)) / 120000)) - ((M 12) + ((((M 12) * r) + (M 13)) / 120000))) ((((M 12) * r) + (M 13)) % 120000) ((((M 12) * r) + (M 13)) / 120000) ((M 12) + ((((M 12) * r) + (M 13)) / 120000)) (M 16) ((M 17) + ((((M 12) * r) + (M 13)) / 120000)) (M 18) (M 19) (M 20) (M 21) (M 22) (M 23) (M 24) (M 25) (M 26) (M 27) (M 28)]) rfl dX8_step_89 (fun H locs hw => ?_)
    refine lv_aload_n Ex Eb dX8_step_92 rfl (lv_at hl 2 rfl) ?_
    refine lv_dup Ex Eb dX8_step_93 rfl ?_
    refine lo_get E hK hw huRX8 16 hf85 rfl 0 rfl rfl (by decide) (v := .int (iI (M 16))) rfl dX8_step_94 ?_
    refine lv_iconst (v := iI 1) Ex Eb dX8_step_97 rfl ?_
    refine lo_iadd E dX8_step_98 ?_
    refine lo_put E hK hw huRX8 tyX8 tyX8_ok nmX8 16 hf85 rfl 0 rfl rfl (by decide) rfl rfl rfl rfl (Nat.le_of_ble_eq_true rfl) (ws' := [oX8 (d 0) (M 0) (d 1) (d 2) (M 3) (d 3) (M 5) (d 4) (d 5) (d 6) (M 9) (d 7) (M 11) (((M 12) + ((((M 12) * r) + (M 13)) / 120000)) - ((M 12) + ((((M 12) * r) + (M 13)) / 120000))) ((((M 12) * r) + (M 13)) % 120000) ((((M 12) * r) + (M 13)) / 120000) ((M 12) + ((((M 12) * r) + (M 13)) / 120000)) ((M 16) + 1) ((M 17) + ((((M 12) * r) + (M 13)) / 120000)) (M 18) (M 19) (M 20) (M 21) (M 22) (M 23) (M 24) (M 25) (M 26) (M 27) (M 28)]) rfl dX8_step_99 (fun H locs hw => ?_)
    exact lo_vret E hRt hLk hK hAe hw dX8_step_102 rfl ⟨rfl, by first | (have hd : fD (fW (M 12) r (M 13)) A m = fW (M 12) r (M 13) := fD_w (by omega); unfold stM; rw [hd]; rfl) | (have hd : fD (fW (M 12) r (M 13)) A m = A := fD_i (by omega) (by omega); unfold stM; rw [hd]; rfl)⟩
  · skip
    refine lv_iload Ex Eb dX8_step_53 (lv_at hl 5 rfl) ?_
    refine lv_iconst (v := iI 1) Ex Eb dX8_step_55 rfl ?_
    refine lo_icmp_ne (tgt := 64) E dX8_step_56 (by decide) (by omega) (by omega) (fun c3 => ?_) (fun c3 => ?_)
    · skip
      refine lv_lload_n Ex Eb dX8_step_64 rfl (lv_at hl 4 rfl) ?_
      refine lo_put E hK hw huRX8 tyX8 tyX8_ok nmX8 15 hf91 rfl 0 rfl rfl (by decide) rfl rfl rfl rfl (Nat.le_of_ble_eq_true rfl) (ws' := [oX8 (d 0) (M 0) (d 1) (d 2) (M 3) (d 3) (M 5) (d 4) (d 5) (d 6) (M 9) (d 7) (M 11) (M 12) ((((M 12) * r) + (M 13)) % 120000) ((((M 12) * r) + (M 13)) / 120000) A (M 16) (M 17) (M 18) (M 19) (M 20) (M 21) (M 22) (M 23) (M 24) (M 25) (M 26) (M 27) (M 28)]) rfl dX8_step_65 (fun H locs hw => ?_)
      refine lv_aload_n Ex Eb dX8_step_68 rfl (lv_at hl 2 rfl) ?_
      refine lv_lload Ex Eb dX8_step_69 (lv_at hl 0 rfl) ?_
      refine lv_aload_n Ex Eb dX8_step_71 rfl (lv_at hl 2 rfl) ?_
      refine lo_get E hK hw huRX8 15 hf91 rfl 0 rfl rfl (by decide) (v := .long (iL A)) rfl dX8_step_72 ?_
      refine lo_lsub E dX8_step_75 ?_
      refine lo_put E hK hw huRX8 tyX8 tyX8_ok nmX8 12 hf78 rfl 0 rfl rfl (by decide) rfl rfl rfl rfl (Nat.le_of_ble_eq_true rfl) (ws' := [oX8 (d 0) (M 0) (d 1) (d 2) (M 3) (d 3) (M 5) (d 4) (d 5) (d 6) (M 9) (d 7) (M 11) (((M 12) + ((((M 12) * r) + (M 13)) / 120000)) - A) ((((M 12) * r) + (M 13)) % 120000) ((((M 12) * r) + (M 13)) / 120000) A (M 16) (M 17) (M 18) (M 19) (M 20) (M 21) (M 22) (M 23) (M 24) (M 25) (M 26) (M 27) (M 28)]) rfl dX8_step_76 (fun H locs hw => ?_)
      refine lv_aload_n Ex Eb dX8_step_79 rfl (lv_at hl 2 rfl) ?_
      refine lv_dup Ex Eb dX8_step_80 rfl ?_
      refine lo_get E hK hw huRX8 17 hf88 rfl 0 rfl rfl (by decide) (v := .long (iL (M 17))) rfl dX8_step_81 ?_
      refine lv_aload_n Ex Eb dX8_step_84 rfl (lv_at hl 2 rfl) ?_
      refine lo_get E hK hw huRX8 14 hf94 rfl 0 rfl rfl (by decide) (v := .long (iL ((((M 12) * r) + (M 13)) / 120000))) rfl dX8_step_85 ?_
      refine lo_ladd E dX8_step_88 ?_
      refine lo_put E hK hw huRX8 tyX8 tyX8_ok nmX8 17 hf88 rfl 0 rfl rfl (by decide) rfl rfl rfl rfl (Nat.le_of_ble_eq_true rfl) (ws' := [oX8 (d 0) (M 0) (d 1) (d 2) (M 3) (d 3) (M 5) (d 4) (d 5) (d 6) (M 9) (d 7) (M 11) (((M 12) + ((((M 12) * r) + (M 13)) / 120000)) - A) ((((M 12) * r) + (M 13)) % 120000) ((((M 12) * r) + (M 13)) / 120000) A (M 16) ((M 17) + ((((M 12) * r) + (M 13)) / 120000)) (M 18) (M 19) (M 20) (M 21) (M 22) (M 23) (M 24) (M 25) (M 26) (M 27) (M 28)]) rfl dX8_step_89 (fun H locs hw => ?_)
      refine lv_aload_n Ex Eb dX8_step_92 rfl (lv_at hl 2 rfl) ?_
      refine lv_dup Ex Eb dX8_step_93 rfl ?_
      refine lo_get E hK hw huRX8 16 hf85 rfl 0 rfl rfl (by decide) (v := .int (iI (M 16))) rfl dX8_step_94 ?_
      refine lv_iconst (v := iI 1) Ex Eb dX8_step_97 rfl ?_
      refine lo_iadd E dX8_step_98 ?_
      refine lo_put E hK hw huRX8 tyX8 tyX8_ok nmX8 16 hf85 rfl 0 rfl rfl (by decide) rfl rfl rfl rfl (Nat.le_of_ble_eq_true rfl) (ws' := [oX8 (d 0) (M 0) (d 1) (d 2) (M 3) (d 3) (M 5) (d 4) (d 5) (d 6) (M 9) (d 7) (M 11) (((M 12) + ((((M 12) * r) + (M 13)) / 120000)) - A) ((((M 12) * r) + (M 13)) % 120000) ((((M 12) * r) + (M 13)) / 120000) A ((M 16) + 1) ((M 17) + ((((M 12) * r) + (M 13)) / 120000)) (M 18) (M 19) (M 20) (M 21) (M 22) (M 23) (M 24) (M 25) (M 26) (M 27) (M 28)]) rfl dX8_step_99 (fun H locs hw => ?_)
      exact lo_vret E hRt hLk hK hAe hw dX8_step_102 rfl ⟨rfl, by first | (have hd : fD (fW (M 12) r (M 13)) A m = fW (M 12) r (M 13) := fD_w (by omega); unfold stM; rw [hd]; rfl) | (have hd : fD (fW (M 12) r (M 13)) A m = A := fD_i (by omega) (by omega); unfold stM; rw [hd]; rfl)⟩
    · skip
      refine lv_lload Ex Eb dX8_step_59 (lv_at hl 0 rfl) ?_
      refine lv_goto (tgt := 65) Ex Eb dX8_step_61 (by decide) ?_
      refine lo_put E hK hw huRX8 tyX8 tyX8_ok nmX8 15 hf91 rfl 0 rfl rfl (by decide) rfl rfl rfl rfl (Nat.le_of_ble_eq_true rfl) (ws' := [oX8 (d 0) (M 0) (d 1) (d 2) (M 3) (d 3) (M 5) (d 4) (d 5) (d 6) (M 9) (d 7) (M 11) (M 12) ((((M 12) * r) + (M 13)) % 120000) ((((M 12) * r) + (M 13)) / 120000) ((M 12) + ((((M 12) * r) + (M 13)) / 120000)) (M 16) (M 17) (M 18) (M 19) (M 20) (M 21) (M 22) (M 23) (M 24) (M 25) (M 26) (M 27) (M 28)]) rfl dX8_step_65 (fun H locs hw => ?_)
      refine lv_aload_n Ex Eb dX8_step_68 rfl (lv_at hl 2 rfl) ?_
      refine lv_lload Ex Eb dX8_step_69 (lv_at hl 0 rfl) ?_
      refine lv_aload_n Ex Eb dX8_step_71 rfl (lv_at hl 2 rfl) ?_
      refine lo_get E hK hw huRX8 15 hf91 rfl 0 rfl rfl (by decide) (v := .long (iL ((M 12) + ((((M 12) * r) + (M 13)) / 120000)))) rfl dX8_step_72 ?_
      refine lo_lsub E dX8_step_75 ?_
      refine lo_put E hK hw huRX8 tyX8 tyX8_ok nmX8 12 hf78 rfl 0 rfl rfl (by decide) rfl rfl rfl rfl (Nat.le_of_ble_eq_true rfl) (ws' := [oX8 (d 0) (M 0) (d 1) (d 2) (M 3) (d 3) (M 5) (d 4) (d 5) (d 6) (M 9) (d 7) (M 11) (((M 12) + ((((M 12) * r) + (M 13)) / 120000)) - ((M 12) + ((((M 12) * r) + (M 13)) / 120000))) ((((M 12) * r) + (M 13)) % 120000) ((((M 12) * r) + (M 13)) / 120000) ((M 12) + ((((M 12) * r) + (M 13)) / 120000)) (M 16) (M 17) (M 18) (M 19) (M 20) (M 21) (M 22) (M 23) (M 24) (M 25) (M 26) (M 27) (M 28)]) rfl dX8_step_76 (fun H locs hw => ?_)
      refine lv_aload_n Ex Eb dX8_step_79 rfl (lv_at hl 2 rfl) ?_
      refine lv_dup Ex Eb dX8_step_80 rfl ?_
      refine lo_get E hK hw huRX8 17 hf88 rfl 0 rfl rfl (by decide) (v := .long (iL (M 17))) rfl dX8_step_81 ?_
      refine lv_aload_n Ex Eb dX8_step_84 rfl (lv_at hl 2 rfl) ?_
      refine lo_get E hK hw huRX8 14 hf94 rfl 0 rfl rfl (by decide) (v := .long (iL ((((M 12) * r) + (M 13)) / 120000))) rfl dX8_step_85 ?_
      refine lo_ladd E dX8_step_88 ?_
      refine lo_put E hK hw huRX8 tyX8 tyX8_ok nmX8 17 hf88 rfl 0 rfl rfl (by decide) rfl rfl rfl rfl (Nat.le_of_ble_eq_true rfl) (ws' := [oX8 (d 0) (M 0) (d 1) (d 2) (M 3) (d 3) (M 5) (d 4) (d 5) (d 6) (M 9) (d 7) (M 11) (((M 12) + ((((M 12) * r) + (M 13)) / 120000)) - ((M 12) + ((((M 12) * r) + (M 13)) / 120000))) ((((M 12) * r) + (M 13)) % 120000) ((((M 12) * r) + (M 13)) / 120000) ((M 12) + ((((M 12) * r) + (M 13)) / 120000)) (M 16) ((M 17) + ((((M 12) * r) + (M 13)) / 120000)) (M 18) (M 19) (M 20) (M 21) (M 22) (M 23) (M 24) (M 25) (M 26) (M 27) (M 28)]) rfl dX8_step_89 (fun H locs hw => ?_)
      refine lv_aload_n Ex Eb dX8_step_92 rfl (lv_at hl 2 rfl) ?_
      refine lv_dup Ex Eb dX8_step_93 rfl ?_
      refine lo_get E hK hw huRX8 16 hf85 rfl 0 rfl rfl (by decide) (v := .int (iI (M 16))) rfl dX8_step_94 ?_
      refine lv_iconst (v := iI 1) Ex Eb dX8_step_97 rfl ?_
      refine lo_iadd E dX8_step_98 ?_
      refine lo_put E hK hw huRX8 tyX8 tyX8_ok nmX8 16 hf85 rfl 0 rfl rfl (by decide) rfl rfl rfl rfl (Nat.le_of_ble_eq_true rfl) (ws' := [oX8 (d 0) (M 0) (d 1) (d 2) (M 3) (d 3) (M 5) (d 4) (d 5) (d 6) (M 9) (d 7) (M 11) (((M 12) + ((((M 12) * r) + (M 13)) / 120000)) - ((M 12) + ((((M 12) * r) + (M 13)) / 120000))) ((((M 12) * r) + (M 13)) % 120000) ((((M 12) * r) + (M 13)) / 120000) ((M 12) + ((((M 12) * r) + (M 13)) / 120000)) ((M 16) + 1) ((M 17) + ((((M 12) * r) + (M 13)) / 120000)) (M 18) (M 19) (M 20) (M 21) (M 22) (M 23) (M 24) (M 25) (M 26) (M 27) (M 28)]) rfl dX8_step_99 (fun H locs hw => ?_)
      exact lo_vret E hRt hLk hK hAe hw dX8_step_102 rfl ⟨rfl, by first | (have hd : fD (fW (M 12) r (M 13)) A m = fW (M 12) r (M 13) := fD_w (by omega); unfold stM; rw [hd]; rfl) | (have hd : fD (fW (M 12) r (M 13)) A m = A := fD_i (by omega) (by omega); unfold stM; rw [hd]; rfl)⟩
set_option maxHeartbeats 4000000 in
set_option maxRecDepth 100000 in
theorem kX8_walkAll (l : Launch) (X : KX) (d : Nat → Nat) (M : Nat → Int) (r A mo : Int) (hb : 0 ≤ M 12 ∧ M 12 ≤ 10000000) (hc : 0 ≤ M 13 ∧ M 13 < 120000) (hr : 0 ≤ r ∧ r ≤ 3000) (hA : 0 ≤ A ∧ A ≤ 2000000000) (hmo : 0 ≤ mo ∧ mo ≤ 120) (hdu : 0 ≤ M 15 ∧ M 15 ≤ 4000000000) : CM l X yX8_walkAll wsX8_walkAll ({ frames := 1, cells := 0, slots := 0, locals := 28 }) [.ref (d 0), .int (iI r), .long (iL A), .int (iI mo)] ([oX8 (d 0) (M 0) (d 1) (d 2) (M 3) (d 3) (M 5) (d 4) (d 5) (d 6) (M 9) (d 7) (M 11) (M 12) (M 13) (M 14) (M 15) (M 16) (M 17) (M 18) (M 19) (M 20) (M 21) (M 22) (M 23) (M 24) (M 25) (M 26) (M 27) (M 28)]) (fun v9 w9 => (0 ≤ waM r A mo.toNat M 15 ∧ waM r A mo.toNat M 15 ≤ 4000000000) ∧ v9 = some (.long (iL (waM r A mo.toNat M 15))) ∧ w9 = [oX8 (d 0) (waM r A mo.toNat M 0) (d 1) (d 2) (waM r A mo.toNat M 3) (d 3) (waM r A mo.toNat M 5) (d 4) (d 5) (d 6) (waM r A mo.toNat M 9) (d 7) (waM r A mo.toNat M 11) (waM r A mo.toNat M 12) (waM r A mo.toNat M 13) (waM r A mo.toNat M 14) (waM r A mo.toNat M 15) (waM r A mo.toNat M 16) (waM r A mo.toNat M 17) (waM r A mo.toNat M 18) (waM r A mo.toNat M 19) (waM r A mo.toNat M 20) (waM r A mo.toNat M 21) (waM r A mo.toNat M 22) (waM r A mo.toNat M 23) (waM r A mo.toNat M 24) (waM r A mo.toNat M 25) (waM r A mo.toNat M 26) (waM r A mo.toNat M 27) (waM r A mo.toNat M 28)]) 0 0 := by
  refine lo_enter (cc := cX8_walkAll) (maxL := 6) (ret := (some .long)) (lv := [(0, .ref (d 0)), (1, .int (iI r)), (2, .long (iL A)), (4, .int (iI mo))]) (by decide) rfl rfl (Nat.le_of_ble_eq_true rfl) ?_
  intro p9 e9 s9 m9 bl9 me9 c9 A9 ls hAe E hRt hLk hK hl hw
  have Ex := E.1
  have Eb := E.2.1
  have huRX8 : ∀ w ∈ u_ws RX8 TX8 29, w ∈ wsX8_walkAll := by decide +kernel
  have hf91 : (Cond.fieldLink RX8 91 "LoanScheduleModel" "walkDue" "J").before _ s9 = true := E.2.2.2.2 _ (List.mem_of_getElem? (i := 2) rfl)
  have hf78 : (Cond.fieldLink RX8 78 "LoanScheduleModel" "walkBalance" "J").before _ s9 = true := E.2.2.2.2 _ (List.mem_of_getElem? (i := 1) rfl)
  refine lv_iload Ex Eb dX8_walkAll_0 (lv_at hl 3 rfl) ?_
  refine lv_istore (lv' := [(5, .int (iI mo)), (0, .ref (d 0)), (1, .int (iI r)), (2, .long (iL A)), (4, .int (iI mo))]) Ex Eb dX8_walkAll_2 hl (by decide) rfl (fun ls hl => ?_)
  have lp4 : ∀ (n : Nat) (K : Nat → Int) (le : Int), le.toNat < n → (0 ≤ le ∧ le ≤ mo) → (0 ≤ K 12 ∧ K 12 ≤ gb (mo - le).toNat) → (0 ≤ K 13 ∧ K 13 < 120000) → (0 ≤ K 15 ∧ K 15 ≤ 4000000000) → (waM r A le.toNat K = waM r A mo.toNat M) → ∀ (H : Heap) (locs : List Loc) (ls : Array Slot), lo_Wd X ([oX8 (d 0) (K 0) (d 1) (d 2) (K 3) (d 3) (K 5) (d 4) (d 5) (d 6) (K 9) (d 7) (K 11) (K 12) (K 13) (K 14) (K 15) (K 16) (K 17) (K 18) (K 19) (K 20) (K 21) (K 22) (K 23) (K 24) (K 25) (K 26) (K 27) (K 28)]) A9 s9.heap H locs → lv_has ls 6 [(0, .ref (d 0)), (1, .int (iI r)), (2, .long (iL A)), (4, .int (iI mo)), (5, .int (iI le))] → W p9 l e9 ({ frames := 1, cells := 0, slots := 0, locals := 28 } : Room) s9 m9 ([.ref (d 0), .int (iI r), .long (iL A), .int (iI mo)] : List Value).toArray bl9 me9 c9 H locs 0 0 (MQ bl9 (lo_Qc X ([oX8 (d 0) (M 0) (d 1) (d 2) (M 3) (d 3) (M 5) (d 4) (d 5) (d 6) (M 9) (d 7) (M 11) (M 12) (M 13) (M 14) (M 15) (M 16) (M 17) (M 18) (M 19) (M 20) (M 21) (M 22) (M 23) (M 24) (M 25) (M 26) (M 27) (M 28)]) s9.heap.size (fun v9 w9 => (0 ≤ waM r A mo.toNat M 15 ∧ waM r A mo.toNat M 15 ≤ 4000000000) ∧ v9 = some (.long (iL (waM r A mo.toNat M 15))) ∧ w9 = [oX8 (d 0) (waM r A mo.toNat M 0) (d 1) (d 2) (waM r A mo.toNat M 3) (d 3) (waM r A mo.toNat M 5) (d 4) (d 5) (d 6) (waM r A mo.toNat M 9) (d 7) (waM r A mo.toNat M 11) (waM r A mo.toNat M 12) (waM r A mo.toNat M 13) (waM r A mo.toNat M 14) (waM r A mo.toNat M 15) (waM r A mo.toNat M 16) (waM r A mo.toNat M 17) (waM r A mo.toNat M 18) (waM r A mo.toNat M 19) (waM r A mo.toNat M 20) (waM r A mo.toNat M 21) (waM r A mo.toNat M 22) (waM r A mo.toNat M 23) (waM r A mo.toNat M 24) (waM r A mo.toNat M 25) (waM r A mo.toNat M 26) (waM r A mo.toNat M 27) (waM r A mo.toNat M 28)])) ([.ref (d 0), .int (iI r), .long (iL A), .int (iI mo)] : List Value).toArray s9 0 0 A9) (F0 m9 4 ls []) := by
    intro n
    induction n with
    | zero => intro K le hn; exact absurd hn (Nat.not_lt_zero _)
    | succ n ih4 =>
      intro K le hn4 iv4_0 iv4_1 iv4_2 iv4_3 iv4_4 H locs ls hw hl
      have hgb := gb_big (mo - le).toNat (by omega)
      have hfi := fI_r iv4_1.1 hr.1 hr.2 iv4_2.1 iv4_2.2
      have hfc := fC_r (K 12) r (K 13)
      have hfw : fW (K 12) r (K 13) = K 12 + fI (K 12) r (K 13) := rfl
      have hge : gb (mo - (le + (-1))).toNat = gb (mo - le).toNat + gb (mo - le).toNat / 40 + 2 := by rw [show (mo - (le + (-1))).toNat = (mo - le).toNat + 1 by omega, gb_s]
      have hfd : fD (fW (K 12) r (K 13)) A le = fW (K 12) r (K 13) ∨ (fD (fW (K 12) r (K 13)) A le = A ∧ A < fW (K 12) r (K 13)) := by unfold fD; by_cases h : fW (K 12) r (K 13) ≤ A ∨ le = 1 <;> simp [h] <;> omega
      refine lv_iload Ex Eb dX8_walkAll_4 (lv_at hl 4 rfl) ?_
      refine lo_if_le (tgt := 32) E dX8_walkAll_6 (by decide) (by omega) (fun c1 => ?_) (fun c1 => ?_)
      · skip
        refine lv_aload_n Ex Eb dX8_walkAll_32 rfl (lv_at hl 0 rfl) ?_
        refine lo_get E hK hw huRX8 15 hf91 rfl 0 rfl rfl (by decide) (v := .long (iL (K 15))) rfl dX8_walkAll_33 ?_
        exact lo_lret E hRt hLk hK hAe hw dX8_walkAll_36 rfl ⟨(by rw [← iv4_4]; first | (rw [waM_e (by omega)]; exact iv4_3) | (rw [show le.toNat = 0 by omega]; exact iv4_3)), by rw [← iv4_4]; first | (rw [waM_e (by omega)]) | (rw [show le.toNat = 0 by omega]; rfl), by rw [← iv4_4]; first | (rw [waM_e (by omega)]) | (rw [show le.toNat = 0 by omega]; rfl)⟩
      · skip
        refine lv_aload_n Ex Eb dX8_walkAll_9 rfl (lv_at hl 0 rfl) ?_
        refine lo_get E hK hw huRX8 12 hf78 rfl 0 rfl rfl (by decide) (v := .long (iL (K 12))) rfl dX8_walkAll_10 ?_
        refine lv_lconst (v := iL 0) Ex Eb dX8_walkAll_13 rfl ?_
        refine lo_lcmp E dX8_walkAll_14 (by omega) (by omega) (fun zc2 rzc2 dzc2 => ?_)
        refine lo_if_le (tgt := 32) E dX8_walkAll_15 (by decide) (by omega) (fun c3 => ?_) (fun c3 => ?_)
        · skip
          refine lv_aload_n Ex Eb dX8_walkAll_32 rfl (lv_at hl 0 rfl) ?_
          refine lo_get E hK hw huRX8 15 hf91 rfl 0 rfl rfl (by decide) (v := .long (iL (K 15))) rfl dX8_walkAll_33 ?_
          exact lo_lret E hRt hLk hK hAe hw dX8_walkAll_36 rfl ⟨(by rw [← iv4_4]; first | (rw [waM_e (by omega)]; exact iv4_3) | (rw [show le.toNat = 0 by omega]; exact iv4_3)), by rw [← iv4_4]; first | (rw [waM_e (by omega)]) | (rw [show le.toNat = 0 by omega]; rfl), by rw [← iv4_4]; first | (rw [waM_e (by omega)]) | (rw [show le.toNat = 0 by omega]; rfl)⟩
        · skip
          refine lv_aload_n Ex Eb dX8_walkAll_18 rfl (lv_at hl 0 rfl) ?_
          refine lv_iload_n Ex Eb dX8_walkAll_19 rfl (lv_at hl 1 rfl) ?_
          refine lv_lload_n Ex Eb dX8_walkAll_20 rfl (lv_at hl 2 rfl) ?_
          refine lv_iload Ex Eb dX8_walkAll_21 (lv_at hl 4 rfl) ?_
          refine lo_callV (q0 := 0) (rest := []) E hK hw (kX8_step l X d K r A le (by omega) (by omega) (by omega) (by omega) (by omega)) (cwV 3 E.2.2.2.2 gX8_walkAll_X8_step rfl rfl rfl (by decide +kernel) ⟨Nat.le_of_ble_eq_true rfl, Nat.le_of_ble_eq_true rfl⟩) rfl rfl [0] rfl (by decide) hl.1 rfl rfl (Nat.le_of_ble_eq_true rfl) dX8_walkAll_23 ⟨Nat.le_of_ble_eq_true rfl, Nat.le_of_ble_eq_true rfl⟩ (fun v w1 H locs hq hw => ?_)
          obtain ⟨rfl, rfl⟩ := hq
          have hw : lo_Wd X ([oX8 (d 0) (stM K r A le 0) (d 1) (d 2) (stM K r A le 3) (d 3) (stM K r A le 5) (d 4) (d 5) (d 6) (stM K r A le 9) (d 7) (stM K r A le 11) (stM K r A le 12) (stM K r A le 13) (stM K r A le 14) (stM K r A le 15) (stM K r A le 16) (stM K r A le 17) (stM K r A le 18) (stM K r A le 19) (stM K r A le 20) (stM K r A le 21) (stM K r A le 22) (stM K r A le 23) (stM K r A le 24) (stM K r A le 25) (stM K r A le 26) (stM K r A le 27) (stM K r A le 28)]) A9 s9.heap H locs := hw
          refine W.eq (g2 := F0 m9 26 ls []) rfl ?_
          refine lo_iinc (lv' := [(5, .int (iI (le + -1))), (0, .ref (d 0)), (1, .int (iI r)), (2, .long (iL A)), (4, .int (iI mo))]) E dX8_walkAll_26 hl (k := 4) rfl (by decide) rfl (fun ls hl => ?_)
          refine lv_goto (tgt := 4) Ex Eb dX8_walkAll_29 (by decide) ?_
          exact ih4 (stM K r A le) (le + -1) (by omega) (by omega) (by rw [stM_12]; omega) (by rw [stM_13]; omega) (by rw [stM_15]; omega) (by rw [← iv4_4]; exact (waM_s (i := le) (by omega) (by omega)).symm) _ _ _ hw (lv_sub hl [1, 2, 3, 4, 0] rfl)
  exact lp4 _ M mo (Nat.lt_succ_self _) (by omega) (by rw [show mo - mo = 0 by omega]; show 0 ≤ M 12 ∧ M 12 ≤ gb 0; have : gb 0 = 10000000 := rfl; omega) (hc) (hdu) (rfl) _ _ _ hw (lv_sub hl [1, 2, 3, 4, 0] rfl)
set_option maxHeartbeats 4000000 in
set_option maxRecDepth 100000 in
theorem kX8_suits (l : Launch) (X : KX) (d : Nat → Nat) (M w : Nat → Int) (i r A mo : Int) (hi : 0 ≤ i ∧ i < 6) (hb : 1 ≤ wOf w i 1 ∧ wOf w i 1 ≤ 9999999) (hc : 0 ≤ wOf w i 5 ∧ wOf w i 5 < 120000) (hr : 0 ≤ r ∧ r ≤ 3000) (hA : 0 ≤ A ∧ A ≤ 2000000000) (hmo : 1 ≤ mo ∧ mo ≤ 120) : CM l X yX8_suits wsX8_suits ({ frames := 2, cells := 0, slots := 0, locals := 53 }) [.ref (d 0), .int (iI i), .int (iI r), .long (iL A), .int (iI mo)] ([oX8 (d 0) (M 0) (d 1) (d 2) (M 3) (d 3) (M 5) (d 4) (d 5) (d 6) (M 9) (d 7) (M 11) (M 12) (M 13) (M 14) (M 15) (M 16) (M 17) (M 18) (M 19) (M 20) (M 21) (M 22) (M 23) (M 24) (M 25) (M 26) (M 27) (M 28), arI X (d 1) 122 w]) (fun v9 w9 => ∃ N : Nat → Int, ∃ z : Int, (sameW M N) ∧ ((z = 1 ∧ trm r A mo.toNat 1 (wOf w i 1) (wOf w i 5) ≠ -1) ∨ (z = 0 ∧ trm r A mo.toNat 1 (wOf w i 1) (wOf w i 5) = -1)) ∧ v9 = some (.int (iI z)) ∧ w9 = [oX8 (d 0) (N 0) (d 1) (d 2) (N 3) (d 3) (N 5) (d 4) (d 5) (d 6) (N 9) (d 7) (N 11) (N 12) (N 13) (N 14) (N 15) (N 16) (N 17) (N 18) (N 19) (N 20) (N 21) (N 22) (N 23) (N 24) (N 25) (N 26) (N 27) (N 28), arI X (d 1) 122 w]) 0 0 := by
  refine lo_enter (cc := cX8_suits) (maxL := 6) (ret := (some .boolean)) (lv := [(0, .ref (d 0)), (1, .int (iI i)), (2, .int (iI r)), (3, .long (iL A)), (5, .int (iI mo))]) (by decide) rfl rfl (Nat.le_of_ble_eq_true rfl) ?_
  intro p9 e9 s9 m9 bl9 me9 c9 A9 ls hAe E hRt hLk hK hl hw
  have Ex := E.1
  have Eb := E.2.1
  have hsu := waM_suit hr.1 hA.1 (mo - 1).toNat (bgM M (wOf w i 1) (wOf w i 5)) hb.1 hc.1
  rw [show (mo - 1).toNat + 1 = mo.toNat by omega] at hsu
  change (_ ↔ trm r A mo.toNat 1 (wOf w i 1) (wOf w i 5) ≠ -1) at hsu
  refine lv_aload_n Ex Eb dX8_suits_0 rfl (lv_at hl 0 rfl) ?_
  refine lv_iload_n Ex Eb dX8_suits_1 rfl (lv_at hl 1 rfl) ?_
  refine lo_callV (q0 := 0) (rest := []) E hK hw (kX8_beginWith l X d M w i (by omega) (by omega) (by omega)) (cwV 1 E.2.2.2.2 gX8_suits_X8_beginWith rfl rfl rfl (by decide +kernel) ⟨Nat.le_of_ble_eq_true rfl, Nat.le_of_ble_eq_true rfl⟩) rfl rfl [0, 1] rfl (by decide) hl.1 rfl rfl (Nat.le_of_ble_eq_true rfl) dX8_suits_2 ⟨Nat.le_of_ble_eq_true rfl, Nat.le_of_ble_eq_true rfl⟩ (fun v w1 H locs hq hw => ?_)
  obtain ⟨rfl, rfl⟩ := hq
  have hw : lo_Wd X ([oX8 (d 0) (bgM M (wOf w i 1) (wOf w i 5) 0) (d 1) (d 2) (bgM M (wOf w i 1) (wOf w i 5) 3) (d 3) (bgM M (wOf w i 1) (wOf w i 5) 5) (d 4) (d 5) (d 6) (bgM M (wOf w i 1) (wOf w i 5) 9) (d 7) (bgM M (wOf w i 1) (wOf w i 5) 11) (bgM M (wOf w i 1) (wOf w i 5) 12) (bgM M (wOf w i 1) (wOf w i 5) 13) (bgM M (wOf w i 1) (wOf w i 5) 14) (bgM M (wOf w i 1) (wOf w i 5) 15) (bgM M (wOf w i 1) (wOf w i 5) 16) (bgM M (wOf w i 1) (wOf w i 5) 17) (bgM M (wOf w i 1) (wOf w i 5) 18) (bgM M (wOf w i 1) (wOf w i 5) 19) (bgM M (wOf w i 1) (wOf w i 5) 20) (bgM M (wOf w i 1) (wOf w i 5) 21) (bgM M (wOf w i 1) (wOf w i 5) 22) (bgM M (wOf w i 1) (wOf w i 5) 23) (bgM M (wOf w i 1) (wOf w i 5) 24) (bgM M (wOf w i 1) (wOf w i 5) 25) (bgM M (wOf w i 1) (wOf w i 5) 26) (bgM M (wOf w i 1) (wOf w i 5) 27) (bgM M (wOf w i 1) (wOf w i 5) 28), arI X (d 1) 122 w]) A9 s9.heap H locs := hw
  refine W.eq (g2 := F0 m9 5 ls []) rfl ?_
  refine lv_aload_n Ex Eb dX8_suits_5 rfl (lv_at hl 0 rfl) ?_
  refine lv_iload_n Ex Eb dX8_suits_6 rfl (lv_at hl 2 rfl) ?_
  refine lv_lload_n Ex Eb dX8_suits_7 rfl (lv_at hl 3 rfl) ?_
  refine lv_iload Ex Eb dX8_suits_8 (lv_at hl 4 rfl) ?_
  refine lo_callV (q0 := 0) (rest := []) E hK hw (kX8_walkAll l X d (bgM M (wOf w i 1) (wOf w i 5)) r A mo (show 0 ≤ wOf w i 1 ∧ wOf w i 1 ≤ 10000000 by omega) (hc) (hr) (hA) (by omega) (show (0:Int) ≤ 0 ∧ (0:Int) ≤ 4000000000 by omega)) (cwV 3 E.2.2.2.2 gX8_suits_X8_walkAll rfl rfl rfl (by decide +kernel) ⟨Nat.le_of_ble_eq_true rfl, Nat.le_of_ble_eq_true rfl⟩) rfl rfl [0] rfl (by decide) hl.1 rfl rfl (Nat.le_of_ble_eq_true rfl) dX8_suits_10 ⟨Nat.le_of_ble_eq_true rfl, Nat.le_of_ble_eq_true rfl⟩ (fun v w1 H locs hq hw => ?_)
  obtain ⟨q10_0, rfl, rfl⟩ := hq
  have hw : lo_Wd X ([oX8 (d 0) (waM r A mo.toNat (bgM M (wOf w i 1) (wOf w i 5)) 0) (d 1) (d 2) (waM r A mo.toNat (bgM M (wOf w i 1) (wOf w i 5)) 3) (d 3) (waM r A mo.toNat (bgM M (wOf w i 1) (wOf w i 5)) 5) (d 4) (d 5) (d 6) (waM r A mo.toNat (bgM M (wOf w i 1) (wOf w i 5)) 9) (d 7) (waM r A mo.toNat (bgM M (wOf w i 1) (wOf w i 5)) 11) (waM r A mo.toNat (bgM M (wOf w i 1) (wOf w i 5)) 12) (waM r A mo.toNat (bgM M (wOf w i 1) (wOf w i 5)) 13) (waM r A mo.toNat (bgM M (wOf w i 1) (wOf w i 5)) 14) (waM r A mo.toNat (bgM M (wOf w i 1) (wOf w i 5)) 15) (waM r A mo.toNat (bgM M (wOf w i 1) (wOf w i 5)) 16) (waM r A mo.toNat (bgM M (wOf w i 1) (wOf w i 5)) 17) (waM r A mo.toNat (bgM M (wOf w i 1) (wOf w i 5)) 18) (waM r A mo.toNat (bgM M (wOf w i 1) (wOf w i 5)) 19) (waM r A mo.toNat (bgM M (wOf w i 1) (wOf w i 5)) 20) (waM r A mo.toNat (bgM M (wOf w i 1) (wOf w i 5)) 21) (waM r A mo.toNat (bgM M (wOf w i 1) (wOf w i 5)) 22) (waM r A mo.toNat (bgM M (wOf w i 1) (wOf w i 5)) 23) (waM r A mo.toNat (bgM M (wOf w i 1) (wOf w i 5)) 24) (waM r A mo.toNat (bgM M (wOf w i 1) (wOf w i 5)) 25) (waM r A mo.toNat (bgM M (wOf w i 1) (wOf w i 5)) 26) (waM r A mo.toNat (bgM M (wOf w i 1) (wOf w i 5)) 27) (waM r A mo.toNat (bgM M (wOf w i 1) (wOf w i 5)) 28), arI X (d 1) 122 w]) A9 s9.heap H locs := hw
  refine W.eq (g2 := F0 m9 13 ls [.long (iL (waM r A mo.toNat (bgM M (wOf w i 1) (wOf w i 5)) 15))]) rfl ?_
  refine lv_lload_n Ex Eb dX8_suits_13 rfl (lv_at hl 3 rfl) ?_
  refine lo_lcmp E dX8_suits_14 (by omega) (by omega) (fun zc1 rzc1 dzc1 => ?_)
  refine lo_if_gt (tgt := 22) E dX8_suits_15 (by decide) (by omega) (fun c2 => ?_) (fun c2 => ?_)
  · skip
    refine lv_iconst (v := iI 0) Ex Eb dX8_suits_22 rfl ?_
    exact lo_zret E hRt hLk hK hAe hw dX8_suits_23 rfl rfl ⟨waM r A mo.toNat (bgM M (wOf w i 1) (wOf w i 5)), 0, ((bgM_same _ _ _).tr (waM_same _ _ _ _)), (by omega), rfl, rfl⟩
  · skip
    refine lv_iconst (v := iI 1) Ex Eb dX8_suits_18 rfl ?_
    refine lv_goto (tgt := 23) Ex Eb dX8_suits_19 (by decide) ?_
    exact lo_zret E hRt hLk hK hAe hw dX8_suits_23 rfl rfl ⟨waM r A mo.toNat (bgM M (wOf w i 1) (wOf w i 5)), 1, ((bgM_same _ _ _).tr (waM_same _ _ _ _)), (by omega), rfl, rfl⟩
set_option maxHeartbeats 4000000 in
set_option maxRecDepth 100000 in
theorem kX8_level (l : Launch) (X : KX) (d : Nat → Nat) (M w : Nat → Int) (i r mo : Int) (hi : 0 ≤ i ∧ i < 6) (hb : 1 ≤ wOf w i 1 ∧ wOf w i 1 ≤ 9999999) (hc : 0 ≤ wOf w i 5 ∧ wOf w i 5 < 120000) (hr : 0 ≤ r ∧ r ≤ 3000) (hmo : 1 ≤ mo ∧ mo ≤ 120) : CM l X yX8_level wsX8_level ({ frames := 3, cells := 0, slots := 0, locals := 78 }) [.ref (d 0), .int (iI i), .int (iI r), .int (iI mo)] ([oX8 (d 0) (M 0) (d 1) (d 2) (M 3) (d 3) (M 5) (d 4) (d 5) (d 6) (M 9) (d 7) (M 11) (M 12) (M 13) (M 14) (M 15) (M 16) (M 17) (M 18) (M 19) (M 20) (M 21) (M 22) (M 23) (M 24) (M 25) (M 26) (M 27) (M 28), arI X (d 1) 122 w]) (fun v9 w9 => ∃ N : Nat → Int, (sameW M N) ∧ v9 = some (.int (iI (lvl (wOf w i 1) r (wOf w i 5) mo))) ∧ w9 = [oX8 (d 0) (N 0) (d 1) (d 2) (N 3) (d 3) (N 5) (d 4) (d 5) (d 6) (N 9) (d 7) (N 11) (N 12) (N 13) (N 14) (N 15) (N 16) (N 17) (N 18) (N 19) (N 20) (N 21) (N 22) (N 23) (N 24) (N 25) (N 26) (N 27) (N 28), arI X (d 1) 122 w]) 0 0 := by
  refine lo_enter (cc := cX8_level) (maxL := 10) (ret := (some .int)) (lv := [(0, .ref (d 0)), (1, .int (iI i)), (2, .int (iI r)), (3, .int (iI mo))]) (by decide) rfl rfl (Nat.le_of_ble_eq_true rfl) ?_
  intro p9 e9 s9 m9 bl9 me9 c9 A9 ls hAe E hRt hLk hK hl hw
  have Ex := E.1
  have Eb := E.2.1
  have huRX8 : ∀ w ∈ u_ws RX8 TX8 29, w ∈ wsX8_level := by decide +kernel
  have hf91 : (Cond.fieldLink RX8 91 "LoanScheduleModel" "walkDue" "J").before _ s9 = true := E.2.2.2.2 _ (List.mem_of_getElem? (i := 1) rfl)
  have hc115 : (Cond.constantLong RX8 115 (2)).before _ s9 = true := E.2.2.2.2 _ (List.mem_of_getElem? (i := 2) rfl)
  have hfi := fI_r (show 0 ≤ wOf w i 1 by omega) hr.1 hr.2 hc.1 hc.2
  have hfw : fW (wOf w i 1) r (wOf w i 5) = wOf w i 1 + fI (wOf w i 1) r (wOf w i 5) := rfl
  have hd1 : fD (fW (wOf w i 1) r (wOf w i 5)) 1 1 = fW (wOf w i 1) r (wOf w i 5) := fD_w (Or.inr rfl)
  have h232 : (2:Int) ^ 32 = 4294967296 := rfl
  refine lv_aload_n Ex Eb dX8_level_0 rfl (lv_at hl 0 rfl) ?_
  refine lv_iload_n Ex Eb dX8_level_1 rfl (lv_at hl 1 rfl) ?_
  refine lo_callV (q0 := 0) (rest := []) E hK hw (kX8_beginWith l X d M w i (by omega) (by omega) (by omega)) (cwV 1 E.2.2.2.2 gX8_level_X8_beginWith rfl rfl rfl (by decide +kernel) ⟨Nat.le_of_ble_eq_true rfl, Nat.le_of_ble_eq_true rfl⟩) rfl rfl [0, 1] rfl (by decide) hl.1 rfl rfl (Nat.le_of_ble_eq_true rfl) dX8_level_2 ⟨Nat.le_of_ble_eq_true rfl, Nat.le_of_ble_eq_true rfl⟩ (fun v w1 H locs hq hw => ?_)
  obtain ⟨rfl, rfl⟩ := hq
  have hw : lo_Wd X ([oX8 (d 0) (bgM M (wOf w i 1) (wOf w i 5) 0) (d 1) (d 2) (bgM M (wOf w i 1) (wOf w i 5) 3) (d 3) (bgM M (wOf w i 1) (wOf w i 5) 5) (d 4) (d 5) (d 6) (bgM M (wOf w i 1) (wOf w i 5) 9) (d 7) (bgM M (wOf w i 1) (wOf w i 5) 11) (bgM M (wOf w i 1) (wOf w i 5) 12) (bgM M (wOf w i 1) (wOf w i 5) 13) (bgM M (wOf w i 1) (wOf w i 5) 14) (bgM M (wOf w i 1) (wOf w i 5) 15) (bgM M (wOf w i 1) (wOf w i 5) 16) (bgM M (wOf w i 1) (wOf w i 5) 17) (bgM M (wOf w i 1) (wOf w i 5) 18) (bgM M (wOf w i 1) (wOf w i 5) 19) (bgM M (wOf w i 1) (wOf w i 5) 20) (bgM M (wOf w i 1) (wOf w i 5) 21) (bgM M (wOf w i 1) (wOf w i 5) 22) (bgM M (wOf w i 1) (wOf w i 5) 23) (bgM M (wOf w i 1) (wOf w i 5) 24) (bgM M (wOf w i 1) (wOf w i 5) 25) (bgM M (wOf w i 1) (wOf w i 5) 26) (bgM M (wOf w i 1) (wOf w i 5) 27) (bgM M (wOf w i 1) (wOf w i 5) 28), arI X (d 1) 122 w]) A9 s9.heap H locs := hw
  refine W.eq (g2 := F0 m9 5 ls []) rfl ?_
  refine lv_aload_n Ex Eb dX8_level_5 rfl (lv_at hl 0 rfl) ?_
  refine lv_iload_n Ex Eb dX8_level_6 rfl (lv_at hl 2 rfl) ?_
  refine lv_lconst (v := iL 1) Ex Eb dX8_level_7 rfl ?_
  refine lv_iconst (v := iI 1) Ex Eb dX8_level_8 rfl ?_
  refine lo_callV (q0 := 0) (rest := []) E hK hw (kX8_step l X d (bgM M (wOf w i 1) (wOf w i 5)) r 1 1 (show 0 ≤ wOf w i 1 ∧ wOf w i 1 ≤ 1000000000 by omega) (hc) (hr) (by omega) (by omega)) (cwV 3 E.2.2.2.2 gX8_level_X8_step rfl rfl rfl (by decide +kernel) ⟨Nat.le_of_ble_eq_true rfl, Nat.le_of_ble_eq_true rfl⟩) rfl rfl [0] rfl (by decide) hl.1 rfl rfl (Nat.le_of_ble_eq_true rfl) dX8_level_9 ⟨Nat.le_of_ble_eq_true rfl, Nat.le_of_ble_eq_true rfl⟩ (fun v w1 H locs hq hw => ?_)
  obtain ⟨rfl, rfl⟩ := hq
  have hw : lo_Wd X ([oX8 (d 0) (stM (bgM M (wOf w i 1) (wOf w i 5)) r 1 1 0) (d 1) (d 2) (stM (bgM M (wOf w i 1) (wOf w i 5)) r 1 1 3) (d 3) (stM (bgM M (wOf w i 1) (wOf w i 5)) r 1 1 5) (d 4) (d 5) (d 6) (stM (bgM M (wOf w i 1) (wOf w i 5)) r 1 1 9) (d 7) (stM (bgM M (wOf w i 1) (wOf w i 5)) r 1 1 11) (stM (bgM M (wOf w i 1) (wOf w i 5)) r 1 1 12) (stM (bgM M (wOf w i 1) (wOf w i 5)) r 1 1 13) (stM (bgM M (wOf w i 1) (wOf w i 5)) r 1 1 14) (stM (bgM M (wOf w i 1) (wOf w i 5)) r 1 1 15) (stM (bgM M (wOf w i 1) (wOf w i 5)) r 1 1 16) (stM (bgM M (wOf w i 1) (wOf w i 5)) r 1 1 17) (stM (bgM M (wOf w i 1) (wOf w i 5)) r 1 1 18) (stM (bgM M (wOf w i 1) (wOf w i 5)) r 1 1 19) (stM (bgM M (wOf w i 1) (wOf w i 5)) r 1 1 20) (stM (bgM M (wOf w i 1) (wOf w i 5)) r 1 1 21) (stM (bgM M (wOf w i 1) (wOf w i 5)) r 1 1 22) (stM (bgM M (wOf w i 1) (wOf w i 5)) r 1 1 23) (stM (bgM M (wOf w i 1) (wOf w i 5)) r 1 1 24) (stM (bgM M (wOf w i 1) (wOf w i 5)) r 1 1 25) (stM (bgM M (wOf w i 1) (wOf w i 5)) r 1 1 26) (stM (bgM M (wOf w i 1) (wOf w i 5)) r 1 1 27) (stM (bgM M (wOf w i 1) (wOf w i 5)) r 1 1 28), arI X (d 1) 122 w]) A9 s9.heap H locs := hw
  refine W.eq (g2 := F0 m9 12 ls []) rfl ?_
  refine lv_lconst (v := iL 1) Ex Eb dX8_level_12 rfl ?_
  refine lv_lstore (lv' := [(4, .long (iL 1)), (0, .ref (d 0)), (1, .int (iI i)), (2, .int (iI r)), (3, .int (iI mo))]) Ex Eb dX8_level_13 hl (by decide) rfl (fun ls hl => ?_)
  refine lv_aload_n Ex Eb dX8_level_15 rfl (lv_at hl 1 rfl) ?_
  refine lo_get E hK hw huRX8 15 hf91 rfl 0 rfl rfl (by decide) (v := .long (iL (stM (bgM M (wOf w i 1) (wOf w i 5)) r 1 1 15))) rfl dX8_level_16 ?_
  refine lv_lstore (lv' := [(6, .long (iL (stM (bgM M (wOf w i 1) (wOf w i 5)) r 1 1 15))), (4, .long (iL 1)), (0, .ref (d 0)), (1, .int (iI i)), (2, .int (iI r)), (3, .int (iI mo))]) Ex Eb dX8_level_19 hl (by decide) rfl (fun ls hl => ?_)
  have lp21 : ∀ (n : Nat) (K : Nat → Int) (lo hi : Int) (fu : Nat), (hi - lo).toNat < n → (sameW M K) → (1 ≤ lo ∧ lo ≤ hi ∧ hi ≤ 20000000) → (hi - lo < 2 ^ fu) → (bsr r mo (wOf w i 1) (wOf w i 5) fu lo hi = lvl (wOf w i 1) r (wOf w i 5) mo) → ∀ (H : Heap) (locs : List Loc) (ls : Array Slot), lo_Wd X ([oX8 (d 0) (K 0) (d 1) (d 2) (K 3) (d 3) (K 5) (d 4) (d 5) (d 6) (K 9) (d 7) (K 11) (K 12) (K 13) (K 14) (K 15) (K 16) (K 17) (K 18) (K 19) (K 20) (K 21) (K 22) (K 23) (K 24) (K 25) (K 26) (K 27) (K 28), arI X (d 1) 122 w]) A9 s9.heap H locs → lv_has ls 10 [(0, .ref (d 0)), (1, .int (iI i)), (2, .int (iI r)), (3, .int (iI mo)), (4, .long (iL lo)), (6, .long (iL hi))] → W p9 l e9 ({ frames := 3, cells := 0, slots := 0, locals := 78 } : Room) s9 m9 ([.ref (d 0), .int (iI i), .int (iI r), .int (iI mo)] : List Value).toArray bl9 me9 c9 H locs 0 0 (MQ bl9 (lo_Qc X ([oX8 (d 0) (M 0) (d 1) (d 2) (M 3) (d 3) (M 5) (d 4) (d 5) (d 6) (M 9) (d 7) (M 11) (M 12) (M 13) (M 14) (M 15) (M 16) (M 17) (M 18) (M 19) (M 20) (M 21) (M 22) (M 23) (M 24) (M 25) (M 26) (M 27) (M 28), arI X (d 1) 122 w]) s9.heap.size (fun v9 w9 => ∃ N : Nat → Int, (sameW M N) ∧ v9 = some (.int (iI (lvl (wOf w i 1) r (wOf w i 5) mo))) ∧ w9 = [oX8 (d 0) (N 0) (d 1) (d 2) (N 3) (d 3) (N 5) (d 4) (d 5) (d 6) (N 9) (d 7) (N 11) (N 12) (N 13) (N 14) (N 15) (N 16) (N 17) (N 18) (N 19) (N 20) (N 21) (N 22) (N 23) (N 24) (N 25) (N 26) (N 27) (N 28), arI X (d 1) 122 w])) ([.ref (d 0), .int (iI i), .int (iI r), .int (iI mo)] : List Value).toArray s9 0 0 A9) (F0 m9 21 ls []) := by
    intro n
    induction n with
    | zero => intro K lo hi fu hn; exact absurd hn (Nat.not_lt_zero _)
    | succ n ih21 =>
      intro K lo hi fu hn21 iv21_0 iv21_1 iv21_2 iv21_3 H locs ls hw hl
      refine lv_lload Ex Eb dX8_level_21 (lv_at hl 4 rfl) ?_
      refine lv_lload Ex Eb dX8_level_23 (lv_at hl 5 rfl) ?_
      refine lo_lcmp E dX8_level_25 (by omega) (by omega) (fun zc1 rzc1 dzc1 => ?_)
      refine lo_if_ge (tgt := 68) E dX8_level_26 (by decide) (by omega) (fun c2 => ?_) (fun c2 => ?_)
      · skip
        refine lv_lload Ex Eb dX8_level_68 (lv_at hl 4 rfl) ?_
        refine lo_l2i E dX8_level_70 ?_
        exact lo_iret E hRt hLk hK hAe hw dX8_level_71 rfl ⟨K, (iv21_0), by rw [← iv21_3, bsr_end _ (by omega)], rfl⟩
      · skip
        have hpw := lo_pw (show 0 < hi - lo by omega) iv21_2
        have hpw2 := hpw.2
        refine lv_lload Ex Eb dX8_level_29 (lv_at hl 4 rfl) ?_
        refine lv_lload Ex Eb dX8_level_31 (lv_at hl 5 rfl) ?_
        refine lo_ladd E dX8_level_33 ?_
        refine lo_ldc2 (z := 2) E hc115 dX8_level_34 rfl ?_
        refine lo_ldiv E dX8_level_37 (by omega) (by omega) ?_
        refine lv_lstore (lv' := [(8, .long (iL ((lo + hi) / 2))), (0, .ref (d 0)), (1, .int (iI i)), (2, .int (iI r)), (3, .int (iI mo)), (4, .long (iL lo)), (6, .long (iL hi))]) Ex Eb dX8_level_38 hl (by decide) rfl (fun ls hl => ?_)
        refine lv_aload_n Ex Eb dX8_level_40 rfl (lv_at hl 1 rfl) ?_
        refine lv_iload_n Ex Eb dX8_level_41 rfl (lv_at hl 2 rfl) ?_
        refine lv_iload_n Ex Eb dX8_level_42 rfl (lv_at hl 3 rfl) ?_
        refine lv_lload Ex Eb dX8_level_43 (lv_at hl 0 rfl) ?_
        refine lv_iload_n Ex Eb dX8_level_45 rfl (lv_at hl 4 rfl) ?_
        refine lo_callV (q0 := 0) (rest := []) E hK hw (kX8_suits l X d K w i r ((lo + hi) / 2) mo (by omega) (by omega) (by omega) (by omega) (by omega) (by omega)) (cwV 4 E.2.2.2.2 gX8_level_X8_suits rfl rfl rfl (by decide +kernel) ⟨Nat.le_of_ble_eq_true rfl, Nat.le_of_ble_eq_true rfl⟩) rfl rfl [0, 1] rfl (by decide) hl.1 rfl rfl (Nat.le_of_ble_eq_true rfl) dX8_level_46 ⟨Nat.le_of_ble_eq_true rfl, Nat.le_of_ble_eq_true rfl⟩ (fun v w1 H locs hq hw => ?_)
        obtain ⟨N3, z4, q46_0, q46_1, rfl, rfl⟩ := hq
        have hw : lo_Wd X ([oX8 (d 0) (N3 0) (d 1) (d 2) (N3 3) (d 3) (N3 5) (d 4) (d 5) (d 6) (N3 9) (d 7) (N3 11) (N3 12) (N3 13) (N3 14) (N3 15) (N3 16) (N3 17) (N3 18) (N3 19) (N3 20) (N3 21) (N3 22) (N3 23) (N3 24) (N3 25) (N3 26) (N3 27) (N3 28), arI X (d 1) 122 w]) A9 s9.heap H locs := hw
        refine W.eq (g2 := F0 m9 49 ls [.int (iI z4)]) rfl ?_
        refine lo_if_eq (tgt := 59) E dX8_level_49 (by decide) (by omega) (fun c5 => ?_) (fun c5 => ?_)
        · skip
          refine lv_lload Ex Eb dX8_level_59 (lv_at hl 0 rfl) ?_
          refine lv_lconst (v := iL 1) Ex Eb dX8_level_61 rfl ?_
          refine lo_ladd E dX8_level_62 ?_
          refine lv_lstore (lv' := [(4, .long (iL (((lo + hi) / 2) + 1))), (8, .long (iL ((lo + hi) / 2))), (0, .ref (d 0)), (1, .int (iI i)), (2, .int (iI r)), (3, .int (iI mo)), (6, .long (iL hi))]) Ex Eb dX8_level_63 hl (by decide) rfl (fun ls hl => ?_)
          refine lv_goto (tgt := 21) Ex Eb dX8_level_65 (by decide) ?_
          exact ih21 N3 (((lo + hi) / 2) + 1) hi (fu - 1) (by omega) (iv21_0.tr q46_0) (by omega) (by omega) (by rw [← iv21_3]; first | (rw [bsr_upF hpw.1 (by omega) (by omega)]) | (rw [bsr_dnF hpw.1 (by omega) (by omega)])) _ _ _ hw (lv_sub hl [2, 3, 4, 5, 0, 6] rfl)
        · skip
          refine lv_lload Ex Eb dX8_level_52 (lv_at hl 0 rfl) ?_
          refine lv_lstore (lv' := [(6, .long (iL ((lo + hi) / 2))), (8, .long (iL ((lo + hi) / 2))), (0, .ref (d 0)), (1, .int (iI i)), (2, .int (iI r)), (3, .int (iI mo)), (4, .long (iL lo))]) Ex Eb dX8_level_54 hl (by decide) rfl (fun ls hl => ?_)
          refine lv_goto (tgt := 65) Ex Eb dX8_level_56 (by decide) ?_
          refine lv_goto (tgt := 21) Ex Eb dX8_level_65 (by decide) ?_
          exact ih21 N3 lo ((lo + hi) / 2) (fu - 1) (by omega) (iv21_0.tr q46_0) (by omega) (by omega) (by rw [← iv21_3]; first | (rw [bsr_upF hpw.1 (by omega) (by omega)]) | (rw [bsr_dnF hpw.1 (by omega) (by omega)])) _ _ _ hw (lv_sub hl [2, 3, 4, 5, 6, 0] rfl)
  have h15 : stM (bgM M (wOf w i 1) (wOf w i 5)) r 1 1 15 = fW (wOf w i 1) r (wOf w i 5) := hd1
  exact lp21 _ (stM (bgM M (wOf w i 1) (wOf w i 5)) r 1 1) 1 (stM (bgM M (wOf w i 1) (wOf w i 5)) r 1 1 15) 32 (Nat.lt_succ_self _) ((bgM_same _ _ _).tr (stM_same _ _ _ _)) (by omega) (by omega) (by rw [h15]; exact (lvl_def _ _ _ _).symm) _ _ _ hw (lv_sub hl [2, 3, 4, 5, 1, 0] rfl)
set_option maxHeartbeats 4000000 in
set_option maxRecDepth 100000 in
theorem kX8_fewestMonths (l : Launch) (X : KX) (d : Nat → Nat) (M w : Nat → Int) (i r A : Int) (hi : 0 ≤ i ∧ i < 6) (hb : 1 ≤ wOf w i 1 ∧ wOf w i 1 ≤ 9999999) (hc : 0 ≤ wOf w i 5 ∧ wOf w i 5 < 120000) (hr : 0 ≤ r ∧ r ≤ 3000) (hA : 0 ≤ A ∧ A ≤ 2000000000) : CM l X yX8_fewestMonths wsX8_fewestMonths ({ frames := 3, cells := 0, slots := 0, locals := 78 }) [.ref (d 0), .int (iI i), .int (iI r), .int (iI A)] ([oX8 (d 0) (M 0) (d 1) (d 2) (M 3) (d 3) (M 5) (d 4) (d 5) (d 6) (M 9) (d 7) (M 11) (M 12) (M 13) (M 14) (M 15) (M 16) (M 17) (M 18) (M 19) (M 20) (M 21) (M 22) (M 23) (M 24) (M 25) (M 26) (M 27) (M 28), arI X (d 1) 122 w]) (fun v9 w9 => ∃ N : Nat → Int, (sameW M N) ∧ v9 = some (.int (iI (trm r A 120 1 (wOf w i 1) (wOf w i 5)))) ∧ w9 = [oX8 (d 0) (N 0) (d 1) (d 2) (N 3) (d 3) (N 5) (d 4) (d 5) (d 6) (N 9) (d 7) (N 11) (N 12) (N 13) (N 14) (N 15) (N 16) (N 17) (N 18) (N 19) (N 20) (N 21) (N 22) (N 23) (N 24) (N 25) (N 26) (N 27) (N 28), arI X (d 1) 122 w]) 0 0 := by
  refine lo_enter (cc := cX8_fewestMonths) (maxL := 5) (ret := (some .int)) (lv := [(0, .ref (d 0)), (1, .int (iI i)), (2, .int (iI r)), (3, .int (iI A))]) (by decide) rfl rfl (Nat.le_of_ble_eq_true rfl) ?_
  intro p9 e9 s9 m9 bl9 me9 c9 A9 ls hAe E hRt hLk hK hl hw
  have Ex := E.1
  have Eb := E.2.1
  refine lv_iconst (v := iI 1) Ex Eb dX8_fewestMonths_0 rfl ?_
  refine lv_istore (lv' := [(4, .int (iI 1)), (0, .ref (d 0)), (1, .int (iI i)), (2, .int (iI r)), (3, .int (iI A))]) Ex Eb dX8_fewestMonths_1 hl (by decide) rfl (fun ls hl => ?_)
  have lp3 : ∀ (n : Nat) (K : Nat → Int) (mo : Int), (121 - mo).toNat < n → (sameW M K) → (1 ≤ mo ∧ mo ≤ 121) → (trm r A (mo - 1).toNat 1 (wOf w i 1) (wOf w i 5) = -1) → ∀ (H : Heap) (locs : List Loc) (ls : Array Slot), lo_Wd X ([oX8 (d 0) (K 0) (d 1) (d 2) (K 3) (d 3) (K 5) (d 4) (d 5) (d 6) (K 9) (d 7) (K 11) (K 12) (K 13) (K 14) (K 15) (K 16) (K 17) (K 18) (K 19) (K 20) (K 21) (K 22) (K 23) (K 24) (K 25) (K 26) (K 27) (K 28), arI X (d 1) 122 w]) A9 s9.heap H locs → lv_has ls 5 [(0, .ref (d 0)), (1, .int (iI i)), (2, .int (iI r)), (3, .int (iI A)), (4, .int (iI mo))] → W p9 l e9 ({ frames := 3, cells := 0, slots := 0, locals := 78 } : Room) s9 m9 ([.ref (d 0), .int (iI i), .int (iI r), .int (iI A)] : List Value).toArray bl9 me9 c9 H locs 0 0 (MQ bl9 (lo_Qc X ([oX8 (d 0) (M 0) (d 1) (d 2) (M 3) (d 3) (M 5) (d 4) (d 5) (d 6) (M 9) (d 7) (M 11) (M 12) (M 13) (M 14) (M 15) (M 16) (M 17) (M 18) (M 19) (M 20) (M 21) (M 22) (M 23) (M 24) (M 25) (M 26) (M 27) (M 28), arI X (d 1) 122 w]) s9.heap.size (fun v9 w9 => ∃ N : Nat → Int, (sameW M N) ∧ v9 = some (.int (iI (trm r A 120 1 (wOf w i 1) (wOf w i 5)))) ∧ w9 = [oX8 (d 0) (N 0) (d 1) (d 2) (N 3) (d 3) (N 5) (d 4) (d 5) (d 6) (N 9) (d 7) (N 11) (N 12) (N 13) (N 14) (N 15) (N 16) (N 17) (N 18) (N 19) (N 20) (N 21) (N 22) (N 23) (N 24) (N 25) (N 26) (N 27) (N 28), arI X (d 1) 122 w])) ([.ref (d 0), .int (iI i), .int (iI r), .int (iI A)] : List Value).toArray s9 0 0 A9) (F0 m9 3 ls []) := by
    intro n
    induction n with
    | zero => intro K mo hn; exact absurd hn (Nat.not_lt_zero _)
    | succ n ih3 =>
      intro K mo hn3 iv3_0 iv3_1 iv3_2 H locs ls hw hl
      refine lv_iload Ex Eb dX8_fewestMonths_3 (lv_at hl 4 rfl) ?_
      refine lv_bipush (v := iI 120) Ex Eb dX8_fewestMonths_5 rfl ?_
      refine lo_icmp_gt (tgt := 32) E dX8_fewestMonths_7 (by decide) (by omega) (by omega) (fun c1 => ?_) (fun c1 => ?_)
      · skip
        refine lv_iconst (v := iI (-1)) Ex Eb dX8_fewestMonths_32 rfl ?_
        exact lo_iret E hRt hLk hK hAe hw dX8_fewestMonths_33 rfl ⟨K, (iv3_0), by rw [show (120 : Nat) = (mo - 1).toNat by omega, iv3_2], rfl⟩
      · skip
        refine lv_aload_n Ex Eb dX8_fewestMonths_10 rfl (lv_at hl 0 rfl) ?_
        refine lv_iload_n Ex Eb dX8_fewestMonths_11 rfl (lv_at hl 1 rfl) ?_
        refine lv_iload_n Ex Eb dX8_fewestMonths_12 rfl (lv_at hl 2 rfl) ?_
        refine lv_iload_n Ex Eb dX8_fewestMonths_13 rfl (lv_at hl 3 rfl) ?_
        refine lo_i2l E dX8_fewestMonths_14 (by omega) ?_
        refine lv_iload Ex Eb dX8_fewestMonths_15 (lv_at hl 4 rfl) ?_
        refine lo_callV (q0 := 0) (rest := []) E hK hw (kX8_suits l X d K w i r A mo (by omega) (by omega) (by omega) (by omega) (by omega) (by omega)) (cwV 4 E.2.2.2.2 gX8_fewestMonths_X8_suits rfl rfl rfl (by decide +kernel) ⟨Nat.le_of_ble_eq_true rfl, Nat.le_of_ble_eq_true rfl⟩) rfl rfl [0, 1] rfl (by decide) hl.1 rfl rfl (Nat.le_of_ble_eq_true rfl) dX8_fewestMonths_17 ⟨Nat.le_of_ble_eq_true rfl, Nat.le_of_ble_eq_true rfl⟩ (fun v w1 H locs hq hw => ?_)
        obtain ⟨N2, z3, q17_0, q17_1, rfl, rfl⟩ := hq
        have hw : lo_Wd X ([oX8 (d 0) (N2 0) (d 1) (d 2) (N2 3) (d 3) (N2 5) (d 4) (d 5) (d 6) (N2 9) (d 7) (N2 11) (N2 12) (N2 13) (N2 14) (N2 15) (N2 16) (N2 17) (N2 18) (N2 19) (N2 20) (N2 21) (N2 22) (N2 23) (N2 24) (N2 25) (N2 26) (N2 27) (N2 28), arI X (d 1) 122 w]) A9 s9.heap H locs := hw
        refine W.eq (g2 := F0 m9 20 ls [.int (iI z3)]) rfl ?_
        refine lo_if_eq (tgt := 26) E dX8_fewestMonths_20 (by decide) (by omega) (fun c4 => ?_) (fun c4 => ?_)
        · skip
          refine lo_iinc (lv' := [(4, .int (iI (mo + 1))), (0, .ref (d 0)), (1, .int (iI i)), (2, .int (iI r)), (3, .int (iI A))]) E dX8_fewestMonths_26 hl (k := 4) rfl (by decide) rfl (fun ls hl => ?_)
          refine lv_goto (tgt := 3) Ex Eb dX8_fewestMonths_29 (by decide) ?_
          exact ih3 N2 (mo + 1) (by omega) (iv3_0.tr q17_0) (by omega) (by rw [show mo + 1 - 1 = mo by omega]; omega) _ _ _ hw (lv_sub hl [1, 2, 3, 4, 0] rfl)
        · skip
          refine lv_iload Ex Eb dX8_fewestMonths_23 (lv_at hl 4 rfl) ?_
          exact lo_iret E hRt hLk hK hAe hw dX8_fewestMonths_25 rfl ⟨N2, (iv3_0.tr q17_0), by rw [trm_first (n := 120) (m := mo) (by omega) (by omega) iv3_2 (by omega)], rfl⟩
  exact lp3 _ M 1 (Nat.lt_succ_self _) (sameW.rf) (by omega) (rfl) _ _ _ hw (lv_sub hl [1, 2, 3, 4, 0] rfl)
set_option maxHeartbeats 4000000 in
set_option maxRecDepth 100000 in
theorem kX8_calculate (l : Launch) (X : KX) (d : Nat → Nat) (M w : Nat → Int) (i : Int) (hi : 0 ≤ i ∧ i < 6) (hb : 1 ≤ wOf w i 1 ∧ wOf w i 1 ≤ 9999999) (hc : 0 ≤ wOf w i 5 ∧ wOf w i 5 < 120000) (hr : 0 ≤ wOf w i 2 ∧ wOf w i 2 ≤ 3000) (hmo : 1 ≤ wOf w i 3 ∧ wOf w i 3 ≤ 120) : CM l X yX8_calculate wsX8_calculate ({ frames := 4, cells := 0, slots := 0, locals := 107 }) [.ref (d 0), .int (iI i)] ([oX8 (d 0) (M 0) (d 1) (d 2) (M 3) (d 3) (M 5) (d 4) (d 5) (d 6) (M 9) (d 7) (M 11) (M 12) (M 13) (M 14) (M 15) (M 16) (M 17) (M 18) (M 19) (M 20) (M 21) (M 22) (M 23) (M 24) (M 25) (M 26) (M 27) (M 28), arI X (d 1) 122 w]) (fun v9 w9 => ∃ N : Nat → Int, (sameW M N) ∧ v9 = none ∧ w9 = [oX8 (d 0) (N 0) (d 1) (d 2) (N 3) (d 3) (N 5) (d 4) (d 5) (d 6) (N 9) (d 7) (N 11) (N 12) (N 13) (N 14) (N 15) (N 16) (N 17) (N 18) (N 19) (N 20) (N 21) (N 22) (N 23) (N 24) (N 25) (N 26) (N 27) (N 28), arI X (d 1) 122 (wCalc w i)]) 0 0 := by
  refine lo_enter (cc := cX8_calculate) (maxL := 2) (ret := none) (lv := [(0, .ref (d 0)), (1, .int (iI i))]) (by decide) rfl rfl (Nat.le_of_ble_eq_true rfl) ?_
  intro p9 e9 s9 m9 bl9 me9 c9 A9 ls hAe E hRt hLk hK hl hw
  have Ex := E.1
  have Eb := E.2.1
  refine lv_aload_n Ex Eb dX8_calculate_0 rfl (lv_at hl 0 rfl) ?_
  refine lv_iload_n Ex Eb dX8_calculate_1 rfl (lv_at hl 1 rfl) ?_
  refine lv_iconst (v := iI 4) Ex Eb dX8_calculate_2 rfl ?_
  refine lv_aload_n Ex Eb dX8_calculate_3 rfl (lv_at hl 0 rfl) ?_
  refine lv_iload_n Ex Eb dX8_calculate_4 rfl (lv_at hl 1 rfl) ?_
  refine lv_aload_n Ex Eb dX8_calculate_5 rfl (lv_at hl 0 rfl) ?_
  refine lv_iload_n Ex Eb dX8_calculate_6 rfl (lv_at hl 1 rfl) ?_
  refine lv_iconst (v := iI 2) Ex Eb dX8_calculate_7 rfl ?_
  refine lo_callV (q0 := 0) (rest := [.int (iI i), .ref (d 0), .int (iI 4), .int (iI i), .ref (d 0)]) E hK hw (kX8_of l X d M w i 2 (by omega) (by omega)) (cwV 2 E.2.2.2.2 gX8_calculate_X8_of rfl rfl rfl (by decide +kernel) ⟨Nat.le_of_ble_eq_true rfl, Nat.le_of_ble_eq_true rfl⟩) rfl rfl [0, 1] rfl (by decide) hl.1 rfl rfl (Nat.le_of_ble_eq_true rfl) dX8_calculate_8 ⟨Nat.le_of_ble_eq_true rfl, Nat.le_of_ble_eq_true rfl⟩ (fun v w1 H locs hq hw => ?_)
  obtain ⟨rfl, rfl⟩ := hq
  have hw : lo_Wd X ([oX8 (d 0) (M 0) (d 1) (d 2) (M 3) (d 3) (M 5) (d 4) (d 5) (d 6) (M 9) (d 7) (M 11) (M 12) (M 13) (M 14) (M 15) (M 16) (M 17) (M 18) (M 19) (M 20) (M 21) (M 22) (M 23) (M 24) (M 25) (M 26) (M 27) (M 28), arI X (d 1) 122 w]) A9 s9.heap H locs := hw
  refine W.eq (g2 := F0 m9 11 ls [.int (iI (wOf w i 2)), .int (iI i), .ref (d 0), .int (iI 4), .int (iI i), .ref (d 0)]) rfl ?_
  refine lv_aload_n Ex Eb dX8_calculate_11 rfl (lv_at hl 0 rfl) ?_
  refine lv_iload_n Ex Eb dX8_calculate_12 rfl (lv_at hl 1 rfl) ?_
  refine lv_iconst (v := iI 3) Ex Eb dX8_calculate_13 rfl ?_
  refine lo_callV (q0 := 0) (rest := [.int (iI (wOf w i 2)), .int (iI i), .ref (d 0), .int (iI 4), .int (iI i), .ref (d 0)]) E hK hw (kX8_of l X d M w i 3 (by omega) (by omega)) (cwV 2 E.2.2.2.2 gX8_calculate_X8_of rfl rfl rfl (by decide +kernel) ⟨Nat.le_of_ble_eq_true rfl, Nat.le_of_ble_eq_true rfl⟩) rfl rfl [0, 1] rfl (by decide) hl.1 rfl rfl (Nat.le_of_ble_eq_true rfl) dX8_calculate_14 ⟨Nat.le_of_ble_eq_true rfl, Nat.le_of_ble_eq_true rfl⟩ (fun v w1 H locs hq hw => ?_)
  obtain ⟨rfl, rfl⟩ := hq
  have hw : lo_Wd X ([oX8 (d 0) (M 0) (d 1) (d 2) (M 3) (d 3) (M 5) (d 4) (d 5) (d 6) (M 9) (d 7) (M 11) (M 12) (M 13) (M 14) (M 15) (M 16) (M 17) (M 18) (M 19) (M 20) (M 21) (M 22) (M 23) (M 24) (M 25) (M 26) (M 27) (M 28), arI X (d 1) 122 w]) A9 s9.heap H locs := hw
  refine W.eq (g2 := F0 m9 17 ls [.int (iI (wOf w i 3)), .int (iI (wOf w i 2)), .int (iI i), .ref (d 0), .int (iI 4), .int (iI i), .ref (d 0)]) rfl ?_
  refine lo_callV (q0 := 0) (rest := [.int (iI 4), .int (iI i), .ref (d 0)]) E hK hw (kX8_level l X d M w i (wOf w i 2) (wOf w i 3) (by omega) (by omega) (by omega) (by omega) (by omega)) (cwV 3 E.2.2.2.2 gX8_calculate_X8_level rfl rfl rfl (by decide +kernel) ⟨Nat.le_of_ble_eq_true rfl, Nat.le_of_ble_eq_true rfl⟩) rfl rfl [0, 1] rfl (by decide) hl.1 rfl rfl (Nat.le_of_ble_eq_true rfl) dX8_calculate_17 ⟨Nat.le_of_ble_eq_true rfl, Nat.le_of_ble_eq_true rfl⟩ (fun v w1 H locs hq hw => ?_)
  obtain ⟨N1, q17_0, rfl, rfl⟩ := hq
  have hw : lo_Wd X ([oX8 (d 0) (N1 0) (d 1) (d 2) (N1 3) (d 3) (N1 5) (d 4) (d 5) (d 6) (N1 9) (d 7) (N1 11) (N1 12) (N1 13) (N1 14) (N1 15) (N1 16) (N1 17) (N1 18) (N1 19) (N1 20) (N1 21) (N1 22) (N1 23) (N1 24) (N1 25) (N1 26) (N1 27) (N1 28), arI X (d 1) 122 w]) A9 s9.heap H locs := hw
  refine W.eq (g2 := F0 m9 20 ls [.int (iI (lvl (wOf w i 1) (wOf w i 2) (wOf w i 5) (wOf w i 3))), .int (iI 4), .int (iI i), .ref (d 0)]) rfl ?_
  refine lo_callV (q0 := 0) (rest := []) E hK hw (kX8_put l X d N1 w i 4 (lvl (wOf w i 1) (wOf w i 2) (wOf w i 5) (wOf w i 3)) (by omega) (by omega)) (cwV 3 E.2.2.2.2 gX8_calculate_X8_put rfl rfl rfl (by decide +kernel) ⟨Nat.le_of_ble_eq_true rfl, Nat.le_of_ble_eq_true rfl⟩) rfl rfl [0, 1] rfl (by decide) hl.1 rfl rfl (Nat.le_of_ble_eq_true rfl) dX8_calculate_20 ⟨Nat.le_of_ble_eq_true rfl, Nat.le_of_ble_eq_true rfl⟩ (fun v w1 H locs hq hw => ?_)
  obtain ⟨rfl, rfl⟩ := hq
  have hw : lo_Wd X ([oX8 (d 0) (N1 0) (d 1) (d 2) (N1 3) (d 3) (N1 5) (d 4) (d 5) (d 6) (N1 9) (d 7) (N1 11) (N1 12) (N1 13) (N1 14) (N1 15) (N1 16) (N1 17) (N1 18) (N1 19) (N1 20) (N1 21) (N1 22) (N1 23) (N1 24) (N1 25) (N1 26) (N1 27) (N1 28), arI X (d 1) 122 (wPut w i 4 (lvl (wOf w i 1) (wOf w i 2) (wOf w i 5) (wOf w i 3)))]) A9 s9.heap H locs := hw
  refine W.eq (g2 := F0 m9 23 ls []) rfl ?_
  exact lo_vret E hRt hLk hK hAe hw dX8_calculate_23 rfl ⟨N1, (q17_0), rfl, rfl⟩
set_option maxHeartbeats 4000000 in
set_option maxRecDepth 100000 in
theorem kX8_nextMonth (l : Launch) (X : KX) (d : Nat → Nat) (M w : Nat → Int) (i : Int) (hi : 0 ≤ i ∧ i < 6) (hLI : LI (WL w i)) : CM l X yX8_nextMonth wsX8_nextMonth ({ frames := 2, cells := 0, slots := 0, locals := 45 }) [.ref (d 0), .int (iI i)] ([oX8 (d 0) (M 0) (d 1) (d 2) (M 3) (d 3) (M 5) (d 4) (d 5) (d 6) (M 9) (d 7) (M 11) (M 12) (M 13) (M 14) (M 15) (M 16) (M 17) (M 18) (M 19) (M 20) (M 21) (M 22) (M 23) (M 24) (M 25) (M 26) (M 27) (M 28), arI X (d 1) 122 w]) (fun v9 w9 => v9 = none ∧ w9 = [oX8 (d 0) (nmM M w i 0) (d 1) (d 2) (nmM M w i 3) (d 3) (nmM M w i 5) (d 4) (d 5) (d 6) (nmM M w i 9) (d 7) (nmM M w i 11) (nmM M w i 12) (nmM M w i 13) (nmM M w i 14) (nmM M w i 15) (nmM M w i 16) (nmM M w i 17) (nmM M w i 18) (nmM M w i 19) (nmM M w i 20) (nmM M w i 21) (nmM M w i 22) (nmM M w i 23) (nmM M w i 24) (nmM M w i 25) (nmM M w i 26) (nmM M w i 27) (nmM M w i 28), arI X (d 1) 122 w]) 0 0 := by
  refine lo_enter (cc := cX8_nextMonth) (maxL := 2) (ret := none) (lv := [(0, .ref (d 0)), (1, .int (iI i))]) (by decide) rfl rfl (Nat.le_of_ble_eq_true rfl) ?_
  intro p9 e9 s9 m9 bl9 me9 c9 A9 ls hAe E hRt hLk hK hl hw
  have Ex := E.1
  have Eb := E.2.1
  obtain ⟨⟨hb0, hb1⟩, ⟨hr0, hr1⟩, ⟨hc0, hc1⟩, ⟨hm0, hm1⟩, ⟨hi0, hi1⟩, ⟨hk0, hk1⟩, hop, hcl⟩ := id hLI
  change 0 ≤ wOf w i 1 at hb0
  change wOf w i 1 ≤ 9999999 at hb1
  change 0 ≤ wOf w i 2 at hr0
  change wOf w i 2 ≤ 3000 at hr1
  change 0 ≤ wOf w i 5 at hc0
  change wOf w i 5 < 120000 at hc1
  change 0 ≤ wOf w i 3 at hm0
  change wOf w i 3 ≤ 120 at hm1
  change 0 ≤ wOf w i 4 at hi0
  change wOf w i 4 ≤ 10249999 at hi1
  change 0 ≤ wOf w i 9 at hk0
  change wOf w i 9 ≤ 6 ∧ wOf w i 0 + wOf w i 6 - wOf w i 7 = wOf w i 1 at hk1
  refine lv_aload_n Ex Eb dX8_nextMonth_0 rfl (lv_at hl 0 rfl) ?_
  refine lv_iload_n Ex Eb dX8_nextMonth_1 rfl (lv_at hl 1 rfl) ?_
  refine lo_callV (q0 := 0) (rest := []) E hK hw (kX8_beginWith l X d M w i (by omega) (by omega) (by omega)) (cwV 1 E.2.2.2.2 gX8_nextMonth_X8_beginWith rfl rfl rfl (by decide +kernel) ⟨Nat.le_of_ble_eq_true rfl, Nat.le_of_ble_eq_true rfl⟩) rfl rfl [0, 1] rfl (by decide) hl.1 rfl rfl (Nat.le_of_ble_eq_true rfl) dX8_nextMonth_2 ⟨Nat.le_of_ble_eq_true rfl, Nat.le_of_ble_eq_true rfl⟩ (fun v w1 H locs hq hw => ?_)
  obtain ⟨rfl, rfl⟩ := hq
  have hw : lo_Wd X ([oX8 (d 0) (bgM M (wOf w i 1) (wOf w i 5) 0) (d 1) (d 2) (bgM M (wOf w i 1) (wOf w i 5) 3) (d 3) (bgM M (wOf w i 1) (wOf w i 5) 5) (d 4) (d 5) (d 6) (bgM M (wOf w i 1) (wOf w i 5) 9) (d 7) (bgM M (wOf w i 1) (wOf w i 5) 11) (bgM M (wOf w i 1) (wOf w i 5) 12) (bgM M (wOf w i 1) (wOf w i 5) 13) (bgM M (wOf w i 1) (wOf w i 5) 14) (bgM M (wOf w i 1) (wOf w i 5) 15) (bgM M (wOf w i 1) (wOf w i 5) 16) (bgM M (wOf w i 1) (wOf w i 5) 17) (bgM M (wOf w i 1) (wOf w i 5) 18) (bgM M (wOf w i 1) (wOf w i 5) 19) (bgM M (wOf w i 1) (wOf w i 5) 20) (bgM M (wOf w i 1) (wOf w i 5) 21) (bgM M (wOf w i 1) (wOf w i 5) 22) (bgM M (wOf w i 1) (wOf w i 5) 23) (bgM M (wOf w i 1) (wOf w i 5) 24) (bgM M (wOf w i 1) (wOf w i 5) 25) (bgM M (wOf w i 1) (wOf w i 5) 26) (bgM M (wOf w i 1) (wOf w i 5) 27) (bgM M (wOf w i 1) (wOf w i 5) 28), arI X (d 1) 122 w]) A9 s9.heap H locs := hw
  refine W.eq (g2 := F0 m9 5 ls []) rfl ?_
  refine lv_aload_n Ex Eb dX8_nextMonth_5 rfl (lv_at hl 0 rfl) ?_
  refine lv_aload_n Ex Eb dX8_nextMonth_6 rfl (lv_at hl 0 rfl) ?_
  refine lv_iload_n Ex Eb dX8_nextMonth_7 rfl (lv_at hl 1 rfl) ?_
  refine lv_iconst (v := iI 2) Ex Eb dX8_nextMonth_8 rfl ?_
  refine lo_callV (q0 := 0) (rest := [.ref (d 0)]) E hK hw (kX8_of l X d (bgM M (wOf w i 1) (wOf w i 5)) w i 2 (by omega) (by omega)) (cwV 2 E.2.2.2.2 gX8_nextMonth_X8_of rfl rfl rfl (by decide +kernel) ⟨Nat.le_of_ble_eq_true rfl, Nat.le_of_ble_eq_true rfl⟩) rfl rfl [0, 1] rfl (by decide) hl.1 rfl rfl (Nat.le_of_ble_eq_true rfl) dX8_nextMonth_9 ⟨Nat.le_of_ble_eq_true rfl, Nat.le_of_ble_eq_true rfl⟩ (fun v w1 H locs hq hw => ?_)
  obtain ⟨rfl, rfl⟩ := hq
  have hw : lo_Wd X ([oX8 (d 0) (bgM M (wOf w i 1) (wOf w i 5) 0) (d 1) (d 2) (bgM M (wOf w i 1) (wOf w i 5) 3) (d 3) (bgM M (wOf w i 1) (wOf w i 5) 5) (d 4) (d 5) (d 6) (bgM M (wOf w i 1) (wOf w i 5) 9) (d 7) (bgM M (wOf w i 1) (wOf w i 5) 11) (bgM M (wOf w i 1) (wOf w i 5) 12) (bgM M (wOf w i 1) (wOf w i 5) 13) (bgM M (wOf w i 1) (wOf w i 5) 14) (bgM M (wOf w i 1) (wOf w i 5) 15) (bgM M (wOf w i 1) (wOf w i 5) 16) (bgM M (wOf w i 1) (wOf w i 5) 17) (bgM M (wOf w i 1) (wOf w i 5) 18) (bgM M (wOf w i 1) (wOf w i 5) 19) (bgM M (wOf w i 1) (wOf w i 5) 20) (bgM M (wOf w i 1) (wOf w i 5) 21) (bgM M (wOf w i 1) (wOf w i 5) 22) (bgM M (wOf w i 1) (wOf w i 5) 23) (bgM M (wOf w i 1) (wOf w i 5) 24) (bgM M (wOf w i 1) (wOf w i 5) 25) (bgM M (wOf w i 1) (wOf w i 5) 26) (bgM M (wOf w i 1) (wOf w i 5) 27) (bgM M (wOf w i 1) (wOf w i 5) 28), arI X (d 1) 122 w]) A9 s9.heap H locs := hw
  refine W.eq (g2 := F0 m9 12 ls [.int (iI (wOf w i 2)), .ref (d 0)]) rfl ?_
  refine lv_aload_n Ex Eb dX8_nextMonth_12 rfl (lv_at hl 0 rfl) ?_
  refine lv_iload_n Ex Eb dX8_nextMonth_13 rfl (lv_at hl 1 rfl) ?_
  refine lv_iconst (v := iI 4) Ex Eb dX8_nextMonth_14 rfl ?_
  refine lo_callV (q0 := 0) (rest := [.int (iI (wOf w i 2)), .ref (d 0)]) E hK hw (kX8_of l X d (bgM M (wOf w i 1) (wOf w i 5)) w i 4 (by omega) (by omega)) (cwV 2 E.2.2.2.2 gX8_nextMonth_X8_of rfl rfl rfl (by decide +kernel) ⟨Nat.le_of_ble_eq_true rfl, Nat.le_of_ble_eq_true rfl⟩) rfl rfl [0, 1] rfl (by decide) hl.1 rfl rfl (Nat.le_of_ble_eq_true rfl) dX8_nextMonth_15 ⟨Nat.le_of_ble_eq_true rfl, Nat.le_of_ble_eq_true rfl⟩ (fun v w1 H locs hq hw => ?_)
  obtain ⟨rfl, rfl⟩ := hq
  have hw : lo_Wd X ([oX8 (d 0) (bgM M (wOf w i 1) (wOf w i 5) 0) (d 1) (d 2) (bgM M (wOf w i 1) (wOf w i 5) 3) (d 3) (bgM M (wOf w i 1) (wOf w i 5) 5) (d 4) (d 5) (d 6) (bgM M (wOf w i 1) (wOf w i 5) 9) (d 7) (bgM M (wOf w i 1) (wOf w i 5) 11) (bgM M (wOf w i 1) (wOf w i 5) 12) (bgM M (wOf w i 1) (wOf w i 5) 13) (bgM M (wOf w i 1) (wOf w i 5) 14) (bgM M (wOf w i 1) (wOf w i 5) 15) (bgM M (wOf w i 1) (wOf w i 5) 16) (bgM M (wOf w i 1) (wOf w i 5) 17) (bgM M (wOf w i 1) (wOf w i 5) 18) (bgM M (wOf w i 1) (wOf w i 5) 19) (bgM M (wOf w i 1) (wOf w i 5) 20) (bgM M (wOf w i 1) (wOf w i 5) 21) (bgM M (wOf w i 1) (wOf w i 5) 22) (bgM M (wOf w i 1) (wOf w i 5) 23) (bgM M (wOf w i 1) (wOf w i 5) 24) (bgM M (wOf w i 1) (wOf w i 5) 25) (bgM M (wOf w i 1) (wOf w i 5) 26) (bgM M (wOf w i 1) (wOf w i 5) 27) (bgM M (wOf w i 1) (wOf w i 5) 28), arI X (d 1) 122 w]) A9 s9.heap H locs := hw
  refine W.eq (g2 := F0 m9 18 ls [.int (iI (wOf w i 4)), .int (iI (wOf w i 2)), .ref (d 0)]) rfl ?_
  refine lo_i2l E dX8_nextMonth_18 (by omega) ?_
  refine lv_aload_n Ex Eb dX8_nextMonth_19 rfl (lv_at hl 0 rfl) ?_
  refine lv_iload_n Ex Eb dX8_nextMonth_20 rfl (lv_at hl 1 rfl) ?_
  refine lv_iconst (v := iI 3) Ex Eb dX8_nextMonth_21 rfl ?_
  refine lo_callV (q0 := 0) (rest := [.long (iL (wOf w i 4)), .int (iI (wOf w i 2)), .ref (d 0)]) E hK hw (kX8_of l X d (bgM M (wOf w i 1) (wOf w i 5)) w i 3 (by omega) (by omega)) (cwV 2 E.2.2.2.2 gX8_nextMonth_X8_of rfl rfl rfl (by decide +kernel) ⟨Nat.le_of_ble_eq_true rfl, Nat.le_of_ble_eq_true rfl⟩) rfl rfl [0, 1] rfl (by decide) hl.1 rfl rfl (Nat.le_of_ble_eq_true rfl) dX8_nextMonth_22 ⟨Nat.le_of_ble_eq_true rfl, Nat.le_of_ble_eq_true rfl⟩ (fun v w1 H locs hq hw => ?_)
  obtain ⟨rfl, rfl⟩ := hq
  have hw : lo_Wd X ([oX8 (d 0) (bgM M (wOf w i 1) (wOf w i 5) 0) (d 1) (d 2) (bgM M (wOf w i 1) (wOf w i 5) 3) (d 3) (bgM M (wOf w i 1) (wOf w i 5) 5) (d 4) (d 5) (d 6) (bgM M (wOf w i 1) (wOf w i 5) 9) (d 7) (bgM M (wOf w i 1) (wOf w i 5) 11) (bgM M (wOf w i 1) (wOf w i 5) 12) (bgM M (wOf w i 1) (wOf w i 5) 13) (bgM M (wOf w i 1) (wOf w i 5) 14) (bgM M (wOf w i 1) (wOf w i 5) 15) (bgM M (wOf w i 1) (wOf w i 5) 16) (bgM M (wOf w i 1) (wOf w i 5) 17) (bgM M (wOf w i 1) (wOf w i 5) 18) (bgM M (wOf w i 1) (wOf w i 5) 19) (bgM M (wOf w i 1) (wOf w i 5) 20) (bgM M (wOf w i 1) (wOf w i 5) 21) (bgM M (wOf w i 1) (wOf w i 5) 22) (bgM M (wOf w i 1) (wOf w i 5) 23) (bgM M (wOf w i 1) (wOf w i 5) 24) (bgM M (wOf w i 1) (wOf w i 5) 25) (bgM M (wOf w i 1) (wOf w i 5) 26) (bgM M (wOf w i 1) (wOf w i 5) 27) (bgM M (wOf w i 1) (wOf w i 5) 28), arI X (d 1) 122 w]) A9 s9.heap H locs := hw
  refine W.eq (g2 := F0 m9 25 ls [.int (iI (wOf w i 3)), .long (iL (wOf w i 4)), .int (iI (wOf w i 2)), .ref (d 0)]) rfl ?_
  refine lo_callV (q0 := 0) (rest := []) E hK hw (kX8_step l X d (bgM M (wOf w i 1) (wOf w i 5)) (wOf w i 2) (wOf w i 4) (wOf w i 3) (show 0 ≤ wOf w i 1 ∧ wOf w i 1 ≤ 1000000000 by omega) (show 0 ≤ wOf w i 5 ∧ wOf w i 5 < 120000 by omega) (by omega) (by omega) (by omega)) (cwV 3 E.2.2.2.2 gX8_nextMonth_X8_step rfl rfl rfl (by decide +kernel) ⟨Nat.le_of_ble_eq_true rfl, Nat.le_of_ble_eq_true rfl⟩) rfl rfl [0] rfl (by decide) hl.1 rfl rfl (Nat.le_of_ble_eq_true rfl) dX8_nextMonth_25 ⟨Nat.le_of_ble_eq_true rfl, Nat.le_of_ble_eq_true rfl⟩ (fun v w1 H locs hq hw => ?_)
  obtain ⟨rfl, rfl⟩ := hq
  have hw : lo_Wd X ([oX8 (d 0) (stM (bgM M (wOf w i 1) (wOf w i 5)) (wOf w i 2) (wOf w i 4) (wOf w i 3) 0) (d 1) (d 2) (stM (bgM M (wOf w i 1) (wOf w i 5)) (wOf w i 2) (wOf w i 4) (wOf w i 3) 3) (d 3) (stM (bgM M (wOf w i 1) (wOf w i 5)) (wOf w i 2) (wOf w i 4) (wOf w i 3) 5) (d 4) (d 5) (d 6) (stM (bgM M (wOf w i 1) (wOf w i 5)) (wOf w i 2) (wOf w i 4) (wOf w i 3) 9) (d 7) (stM (bgM M (wOf w i 1) (wOf w i 5)) (wOf w i 2) (wOf w i 4) (wOf w i 3) 11) (stM (bgM M (wOf w i 1) (wOf w i 5)) (wOf w i 2) (wOf w i 4) (wOf w i 3) 12) (stM (bgM M (wOf w i 1) (wOf w i 5)) (wOf w i 2) (wOf w i 4) (wOf w i 3) 13) (stM (bgM M (wOf w i 1) (wOf w i 5)) (wOf w i 2) (wOf w i 4) (wOf w i 3) 14) (stM (bgM M (wOf w i 1) (wOf w i 5)) (wOf w i 2) (wOf w i 4) (wOf w i 3) 15) (stM (bgM M (wOf w i 1) (wOf w i 5)) (wOf w i 2) (wOf w i 4) (wOf w i 3) 16) (stM (bgM M (wOf w i 1) (wOf w i 5)) (wOf w i 2) (wOf w i 4) (wOf w i 3) 17) (stM (bgM M (wOf w i 1) (wOf w i 5)) (wOf w i 2) (wOf w i 4) (wOf w i 3) 18) (stM (bgM M (wOf w i 1) (wOf w i 5)) (wOf w i 2) (wOf w i 4) (wOf w i 3) 19) (stM (bgM M (wOf w i 1) (wOf w i 5)) (wOf w i 2) (wOf w i 4) (wOf w i 3) 20) (stM (bgM M (wOf w i 1) (wOf w i 5)) (wOf w i 2) (wOf w i 4) (wOf w i 3) 21) (stM (bgM M (wOf w i 1) (wOf w i 5)) (wOf w i 2) (wOf w i 4) (wOf w i 3) 22) (stM (bgM M (wOf w i 1) (wOf w i 5)) (wOf w i 2) (wOf w i 4) (wOf w i 3) 23) (stM (bgM M (wOf w i 1) (wOf w i 5)) (wOf w i 2) (wOf w i 4) (wOf w i 3) 24) (stM (bgM M (wOf w i 1) (wOf w i 5)) (wOf w i 2) (wOf w i 4) (wOf w i 3) 25) (stM (bgM M (wOf w i 1) (wOf w i 5)) (wOf w i 2) (wOf w i 4) (wOf w i 3) 26) (stM (bgM M (wOf w i 1) (wOf w i 5)) (wOf w i 2) (wOf w i 4) (wOf w i 3) 27) (stM (bgM M (wOf w i 1) (wOf w i 5)) (wOf w i 2) (wOf w i 4) (wOf w i 3) 28), arI X (d 1) 122 w]) A9 s9.heap H locs := hw
  refine W.eq (g2 := F0 m9 28 ls []) rfl ?_
  exact lo_vret E hRt hLk hK hAe hw dX8_nextMonth_28 rfl ⟨rfl, rfl⟩
set_option maxHeartbeats 4000000 in
set_option maxRecDepth 100000 in
theorem kX8_ahead (l : Launch) (X : KX) (d : Nat → Nat) (M w : Nat → Int) (i : Int) (hi : 0 ≤ i ∧ i < 6) (hLI : LI (WL w i)) : CM l X yX8_ahead wsX8_ahead ({ frames := 2, cells := 0, slots := 0, locals := 53 }) [.ref (d 0), .int (iI i)] ([oX8 (d 0) (M 0) (d 1) (d 2) (M 3) (d 3) (M 5) (d 4) (d 5) (d 6) (M 9) (d 7) (M 11) (M 12) (M 13) (M 14) (M 15) (M 16) (M 17) (M 18) (M 19) (M 20) (M 21) (M 22) (M 23) (M 24) (M 25) (M 26) (M 27) (M 28), arI X (d 1) 122 w]) (fun v9 w9 => (0 ≤ ahM M w i 15 ∧ ahM M w i 15 ≤ 4000000000) ∧ v9 = some (.int (iI (ahM M w i 15))) ∧ w9 = [oX8 (d 0) (ahM M w i 0) (d 1) (d 2) (ahM M w i 3) (d 3) (ahM M w i 5) (d 4) (d 5) (d 6) (ahM M w i 9) (d 7) (ahM M w i 11) (ahM M w i 12) (ahM M w i 13) (ahM M w i 14) (ahM M w i 15) (ahM M w i 16) (ahM M w i 17) (ahM M w i 18) (ahM M w i 19) (ahM M w i 20) (ahM M w i 21) (ahM M w i 22) (ahM M w i 23) (ahM M w i 24) (ahM M w i 25) (ahM M w i 26) (ahM M w i 27) (ahM M w i 28), arI X (d 1) 122 w]) 0 0 := by
  refine lo_enter (cc := cX8_ahead) (maxL := 2) (ret := (some .int)) (lv := [(0, .ref (d 0)), (1, .int (iI i))]) (by decide) rfl rfl (Nat.le_of_ble_eq_true rfl) ?_
  intro p9 e9 s9 m9 bl9 me9 c9 A9 ls hAe E hRt hLk hK hl hw
  have Ex := E.1
  have Eb := E.2.1
  obtain ⟨⟨hb0, hb1⟩, ⟨hr0, hr1⟩, ⟨hc0, hc1⟩, ⟨hm0, hm1⟩, ⟨hi0, hi1⟩, ⟨hk0, hk1⟩, hop, hcl⟩ := id hLI
  change 0 ≤ wOf w i 1 at hb0
  change wOf w i 1 ≤ 9999999 at hb1
  change 0 ≤ wOf w i 2 at hr0
  change wOf w i 2 ≤ 3000 at hr1
  change 0 ≤ wOf w i 5 at hc0
  change wOf w i 5 < 120000 at hc1
  change 0 ≤ wOf w i 3 at hm0
  change wOf w i 3 ≤ 120 at hm1
  change 0 ≤ wOf w i 4 at hi0
  change wOf w i 4 ≤ 10249999 at hi1
  change 0 ≤ wOf w i 9 at hk0
  change wOf w i 9 ≤ 6 ∧ wOf w i 0 + wOf w i 6 - wOf w i 7 = wOf w i 1 at hk1
  refine lv_aload_n Ex Eb dX8_ahead_0 rfl (lv_at hl 0 rfl) ?_
  refine lv_iload_n Ex Eb dX8_ahead_1 rfl (lv_at hl 1 rfl) ?_
  refine lo_callV (q0 := 0) (rest := []) E hK hw (kX8_beginWith l X d M w i (by omega) (by omega) (by omega)) (cwV 1 E.2.2.2.2 gX8_ahead_X8_beginWith rfl rfl rfl (by decide +kernel) ⟨Nat.le_of_ble_eq_true rfl, Nat.le_of_ble_eq_true rfl⟩) rfl rfl [0, 1] rfl (by decide) hl.1 rfl rfl (Nat.le_of_ble_eq_true rfl) dX8_ahead_2 ⟨Nat.le_of_ble_eq_true rfl, Nat.le_of_ble_eq_true rfl⟩ (fun v w1 H locs hq hw => ?_)
  obtain ⟨rfl, rfl⟩ := hq
  have hw : lo_Wd X ([oX8 (d 0) (bgM M (wOf w i 1) (wOf w i 5) 0) (d 1) (d 2) (bgM M (wOf w i 1) (wOf w i 5) 3) (d 3) (bgM M (wOf w i 1) (wOf w i 5) 5) (d 4) (d 5) (d 6) (bgM M (wOf w i 1) (wOf w i 5) 9) (d 7) (bgM M (wOf w i 1) (wOf w i 5) 11) (bgM M (wOf w i 1) (wOf w i 5) 12) (bgM M (wOf w i 1) (wOf w i 5) 13) (bgM M (wOf w i 1) (wOf w i 5) 14) (bgM M (wOf w i 1) (wOf w i 5) 15) (bgM M (wOf w i 1) (wOf w i 5) 16) (bgM M (wOf w i 1) (wOf w i 5) 17) (bgM M (wOf w i 1) (wOf w i 5) 18) (bgM M (wOf w i 1) (wOf w i 5) 19) (bgM M (wOf w i 1) (wOf w i 5) 20) (bgM M (wOf w i 1) (wOf w i 5) 21) (bgM M (wOf w i 1) (wOf w i 5) 22) (bgM M (wOf w i 1) (wOf w i 5) 23) (bgM M (wOf w i 1) (wOf w i 5) 24) (bgM M (wOf w i 1) (wOf w i 5) 25) (bgM M (wOf w i 1) (wOf w i 5) 26) (bgM M (wOf w i 1) (wOf w i 5) 27) (bgM M (wOf w i 1) (wOf w i 5) 28), arI X (d 1) 122 w]) A9 s9.heap H locs := hw
  refine W.eq (g2 := F0 m9 5 ls []) rfl ?_
  refine lv_aload_n Ex Eb dX8_ahead_5 rfl (lv_at hl 0 rfl) ?_
  refine lv_aload_n Ex Eb dX8_ahead_6 rfl (lv_at hl 0 rfl) ?_
  refine lv_iload_n Ex Eb dX8_ahead_7 rfl (lv_at hl 1 rfl) ?_
  refine lv_iconst (v := iI 2) Ex Eb dX8_ahead_8 rfl ?_
  refine lo_callV (q0 := 0) (rest := [.ref (d 0)]) E hK hw (kX8_of l X d (bgM M (wOf w i 1) (wOf w i 5)) w i 2 (by omega) (by omega)) (cwV 2 E.2.2.2.2 gX8_ahead_X8_of rfl rfl rfl (by decide +kernel) ⟨Nat.le_of_ble_eq_true rfl, Nat.le_of_ble_eq_true rfl⟩) rfl rfl [0, 1] rfl (by decide) hl.1 rfl rfl (Nat.le_of_ble_eq_true rfl) dX8_ahead_9 ⟨Nat.le_of_ble_eq_true rfl, Nat.le_of_ble_eq_true rfl⟩ (fun v w1 H locs hq hw => ?_)
  obtain ⟨rfl, rfl⟩ := hq
  have hw : lo_Wd X ([oX8 (d 0) (bgM M (wOf w i 1) (wOf w i 5) 0) (d 1) (d 2) (bgM M (wOf w i 1) (wOf w i 5) 3) (d 3) (bgM M (wOf w i 1) (wOf w i 5) 5) (d 4) (d 5) (d 6) (bgM M (wOf w i 1) (wOf w i 5) 9) (d 7) (bgM M (wOf w i 1) (wOf w i 5) 11) (bgM M (wOf w i 1) (wOf w i 5) 12) (bgM M (wOf w i 1) (wOf w i 5) 13) (bgM M (wOf w i 1) (wOf w i 5) 14) (bgM M (wOf w i 1) (wOf w i 5) 15) (bgM M (wOf w i 1) (wOf w i 5) 16) (bgM M (wOf w i 1) (wOf w i 5) 17) (bgM M (wOf w i 1) (wOf w i 5) 18) (bgM M (wOf w i 1) (wOf w i 5) 19) (bgM M (wOf w i 1) (wOf w i 5) 20) (bgM M (wOf w i 1) (wOf w i 5) 21) (bgM M (wOf w i 1) (wOf w i 5) 22) (bgM M (wOf w i 1) (wOf w i 5) 23) (bgM M (wOf w i 1) (wOf w i 5) 24) (bgM M (wOf w i 1) (wOf w i 5) 25) (bgM M (wOf w i 1) (wOf w i 5) 26) (bgM M (wOf w i 1) (wOf w i 5) 27) (bgM M (wOf w i 1) (wOf w i 5) 28), arI X (d 1) 122 w]) A9 s9.heap H locs := hw
  refine W.eq (g2 := F0 m9 12 ls [.int (iI (wOf w i 2)), .ref (d 0)]) rfl ?_
  refine lv_aload_n Ex Eb dX8_ahead_12 rfl (lv_at hl 0 rfl) ?_
  refine lv_iload_n Ex Eb dX8_ahead_13 rfl (lv_at hl 1 rfl) ?_
  refine lv_iconst (v := iI 4) Ex Eb dX8_ahead_14 rfl ?_
  refine lo_callV (q0 := 0) (rest := [.int (iI (wOf w i 2)), .ref (d 0)]) E hK hw (kX8_of l X d (bgM M (wOf w i 1) (wOf w i 5)) w i 4 (by omega) (by omega)) (cwV 2 E.2.2.2.2 gX8_ahead_X8_of rfl rfl rfl (by decide +kernel) ⟨Nat.le_of_ble_eq_true rfl, Nat.le_of_ble_eq_true rfl⟩) rfl rfl [0, 1] rfl (by decide) hl.1 rfl rfl (Nat.le_of_ble_eq_true rfl) dX8_ahead_15 ⟨Nat.le_of_ble_eq_true rfl, Nat.le_of_ble_eq_true rfl⟩ (fun v w1 H locs hq hw => ?_)
  obtain ⟨rfl, rfl⟩ := hq
  have hw : lo_Wd X ([oX8 (d 0) (bgM M (wOf w i 1) (wOf w i 5) 0) (d 1) (d 2) (bgM M (wOf w i 1) (wOf w i 5) 3) (d 3) (bgM M (wOf w i 1) (wOf w i 5) 5) (d 4) (d 5) (d 6) (bgM M (wOf w i 1) (wOf w i 5) 9) (d 7) (bgM M (wOf w i 1) (wOf w i 5) 11) (bgM M (wOf w i 1) (wOf w i 5) 12) (bgM M (wOf w i 1) (wOf w i 5) 13) (bgM M (wOf w i 1) (wOf w i 5) 14) (bgM M (wOf w i 1) (wOf w i 5) 15) (bgM M (wOf w i 1) (wOf w i 5) 16) (bgM M (wOf w i 1) (wOf w i 5) 17) (bgM M (wOf w i 1) (wOf w i 5) 18) (bgM M (wOf w i 1) (wOf w i 5) 19) (bgM M (wOf w i 1) (wOf w i 5) 20) (bgM M (wOf w i 1) (wOf w i 5) 21) (bgM M (wOf w i 1) (wOf w i 5) 22) (bgM M (wOf w i 1) (wOf w i 5) 23) (bgM M (wOf w i 1) (wOf w i 5) 24) (bgM M (wOf w i 1) (wOf w i 5) 25) (bgM M (wOf w i 1) (wOf w i 5) 26) (bgM M (wOf w i 1) (wOf w i 5) 27) (bgM M (wOf w i 1) (wOf w i 5) 28), arI X (d 1) 122 w]) A9 s9.heap H locs := hw
  refine W.eq (g2 := F0 m9 18 ls [.int (iI (wOf w i 4)), .int (iI (wOf w i 2)), .ref (d 0)]) rfl ?_
  refine lo_i2l E dX8_ahead_18 (by omega) ?_
  refine lv_aload_n Ex Eb dX8_ahead_19 rfl (lv_at hl 0 rfl) ?_
  refine lv_iload_n Ex Eb dX8_ahead_20 rfl (lv_at hl 1 rfl) ?_
  refine lv_iconst (v := iI 3) Ex Eb dX8_ahead_21 rfl ?_
  refine lo_callV (q0 := 0) (rest := [.long (iL (wOf w i 4)), .int (iI (wOf w i 2)), .ref (d 0)]) E hK hw (kX8_of l X d (bgM M (wOf w i 1) (wOf w i 5)) w i 3 (by omega) (by omega)) (cwV 2 E.2.2.2.2 gX8_ahead_X8_of rfl rfl rfl (by decide +kernel) ⟨Nat.le_of_ble_eq_true rfl, Nat.le_of_ble_eq_true rfl⟩) rfl rfl [0, 1] rfl (by decide) hl.1 rfl rfl (Nat.le_of_ble_eq_true rfl) dX8_ahead_22 ⟨Nat.le_of_ble_eq_true rfl, Nat.le_of_ble_eq_true rfl⟩ (fun v w1 H locs hq hw => ?_)
  obtain ⟨rfl, rfl⟩ := hq
  have hw : lo_Wd X ([oX8 (d 0) (bgM M (wOf w i 1) (wOf w i 5) 0) (d 1) (d 2) (bgM M (wOf w i 1) (wOf w i 5) 3) (d 3) (bgM M (wOf w i 1) (wOf w i 5) 5) (d 4) (d 5) (d 6) (bgM M (wOf w i 1) (wOf w i 5) 9) (d 7) (bgM M (wOf w i 1) (wOf w i 5) 11) (bgM M (wOf w i 1) (wOf w i 5) 12) (bgM M (wOf w i 1) (wOf w i 5) 13) (bgM M (wOf w i 1) (wOf w i 5) 14) (bgM M (wOf w i 1) (wOf w i 5) 15) (bgM M (wOf w i 1) (wOf w i 5) 16) (bgM M (wOf w i 1) (wOf w i 5) 17) (bgM M (wOf w i 1) (wOf w i 5) 18) (bgM M (wOf w i 1) (wOf w i 5) 19) (bgM M (wOf w i 1) (wOf w i 5) 20) (bgM M (wOf w i 1) (wOf w i 5) 21) (bgM M (wOf w i 1) (wOf w i 5) 22) (bgM M (wOf w i 1) (wOf w i 5) 23) (bgM M (wOf w i 1) (wOf w i 5) 24) (bgM M (wOf w i 1) (wOf w i 5) 25) (bgM M (wOf w i 1) (wOf w i 5) 26) (bgM M (wOf w i 1) (wOf w i 5) 27) (bgM M (wOf w i 1) (wOf w i 5) 28), arI X (d 1) 122 w]) A9 s9.heap H locs := hw
  refine W.eq (g2 := F0 m9 25 ls [.int (iI (wOf w i 3)), .long (iL (wOf w i 4)), .int (iI (wOf w i 2)), .ref (d 0)]) rfl ?_
  refine lo_callV (q0 := 0) (rest := []) E hK hw (kX8_walkAll l X d (bgM M (wOf w i 1) (wOf w i 5)) (wOf w i 2) (wOf w i 4) (wOf w i 3) (show 0 ≤ wOf w i 1 ∧ wOf w i 1 ≤ 10000000 by omega) (show 0 ≤ wOf w i 5 ∧ wOf w i 5 < 120000 by omega) (by omega) (by omega) (by omega) (show (0:Int) ≤ 0 ∧ (0:Int) ≤ 4000000000 by omega)) (cwV 3 E.2.2.2.2 gX8_ahead_X8_walkAll rfl rfl rfl (by decide +kernel) ⟨Nat.le_of_ble_eq_true rfl, Nat.le_of_ble_eq_true rfl⟩) rfl rfl [0] rfl (by decide) hl.1 rfl rfl (Nat.le_of_ble_eq_true rfl) dX8_ahead_25 ⟨Nat.le_of_ble_eq_true rfl, Nat.le_of_ble_eq_true rfl⟩ (fun v w1 H locs hq hw => ?_)
  obtain ⟨q25_0, rfl, rfl⟩ := hq
  have hw : lo_Wd X ([oX8 (d 0) (waM (wOf w i 2) (wOf w i 4) (wOf w i 3).toNat (bgM M (wOf w i 1) (wOf w i 5)) 0) (d 1) (d 2) (waM (wOf w i 2) (wOf w i 4) (wOf w i 3).toNat (bgM M (wOf w i 1) (wOf w i 5)) 3) (d 3) (waM (wOf w i 2) (wOf w i 4) (wOf w i 3).toNat (bgM M (wOf w i 1) (wOf w i 5)) 5) (d 4) (d 5) (d 6) (waM (wOf w i 2) (wOf w i 4) (wOf w i 3).toNat (bgM M (wOf w i 1) (wOf w i 5)) 9) (d 7) (waM (wOf w i 2) (wOf w i 4) (wOf w i 3).toNat (bgM M (wOf w i 1) (wOf w i 5)) 11) (waM (wOf w i 2) (wOf w i 4) (wOf w i 3).toNat (bgM M (wOf w i 1) (wOf w i 5)) 12) (waM (wOf w i 2) (wOf w i 4) (wOf w i 3).toNat (bgM M (wOf w i 1) (wOf w i 5)) 13) (waM (wOf w i 2) (wOf w i 4) (wOf w i 3).toNat (bgM M (wOf w i 1) (wOf w i 5)) 14) (waM (wOf w i 2) (wOf w i 4) (wOf w i 3).toNat (bgM M (wOf w i 1) (wOf w i 5)) 15) (waM (wOf w i 2) (wOf w i 4) (wOf w i 3).toNat (bgM M (wOf w i 1) (wOf w i 5)) 16) (waM (wOf w i 2) (wOf w i 4) (wOf w i 3).toNat (bgM M (wOf w i 1) (wOf w i 5)) 17) (waM (wOf w i 2) (wOf w i 4) (wOf w i 3).toNat (bgM M (wOf w i 1) (wOf w i 5)) 18) (waM (wOf w i 2) (wOf w i 4) (wOf w i 3).toNat (bgM M (wOf w i 1) (wOf w i 5)) 19) (waM (wOf w i 2) (wOf w i 4) (wOf w i 3).toNat (bgM M (wOf w i 1) (wOf w i 5)) 20) (waM (wOf w i 2) (wOf w i 4) (wOf w i 3).toNat (bgM M (wOf w i 1) (wOf w i 5)) 21) (waM (wOf w i 2) (wOf w i 4) (wOf w i 3).toNat (bgM M (wOf w i 1) (wOf w i 5)) 22) (waM (wOf w i 2) (wOf w i 4) (wOf w i 3).toNat (bgM M (wOf w i 1) (wOf w i 5)) 23) (waM (wOf w i 2) (wOf w i 4) (wOf w i 3).toNat (bgM M (wOf w i 1) (wOf w i 5)) 24) (waM (wOf w i 2) (wOf w i 4) (wOf w i 3).toNat (bgM M (wOf w i 1) (wOf w i 5)) 25) (waM (wOf w i 2) (wOf w i 4) (wOf w i 3).toNat (bgM M (wOf w i 1) (wOf w i 5)) 26) (waM (wOf w i 2) (wOf w i 4) (wOf w i 3).toNat (bgM M (wOf w i 1) (wOf w i 5)) 27) (waM (wOf w i 2) (wOf w i 4) (wOf w i 3).toNat (bgM M (wOf w i 1) (wOf w i 5)) 28), arI X (d 1) 122 w]) A9 s9.heap H locs := hw
  refine W.eq (g2 := F0 m9 28 ls [.long (iL (waM (wOf w i 2) (wOf w i 4) (wOf w i 3).toNat (bgM M (wOf w i 1) (wOf w i 5)) 15))]) rfl ?_
  refine lo_l2i E dX8_ahead_28 ?_
  exact lo_iret E hRt hLk hK hAe hw dX8_ahead_29 rfl ⟨(q25_0), rfl, rfl⟩

