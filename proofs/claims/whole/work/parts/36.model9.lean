set_option maxHeartbeats 4000000 in
set_option maxRecDepth 100000 in
theorem kX8_tryBudget (l : Launch) (X : KX) (d : Nat → Nat) (M w g : Nat → Int) (bu y : Int) (hWI : WI w) (hbu : 0 ≤ bu ∧ bu ≤ 9999999) (hy : y = 0 ∨ y = 1) : CM l X yX8_tryBudget wsX8_tryBudget ({ frames := 7, cells := 0, slots := 0, locals := 176 }) [.ref (d 0), .int (iI bu), .int (iI y)] ([oX8 (d 0) (M 0) (d 1) (d 2) (M 3) (d 3) (M 5) (d 4) (d 5) (d 6) (M 9) (d 7) (M 11) (M 12) (M 13) (M 14) (M 15) (M 16) (M 17) (M 18) (M 19) (M 20) (M 21) (M 22) (M 23) (M 24) (M 25) (M 26) (M 27) (M 28), arI X (d 1) 122 w, arI X (d 5) 122 g]) (fun v9 w9 => ∃ N : Nat → Int, (sameP M N) ∧ (N 0 = M 0) ∧ (N 28 = wFld (wbF bu y 120 w 0).1 6 (w 0).toNat - wFld w 6 (w 0).toNat) ∧ v9 = some (.int (iI ((wbF bu y 120 w 0).2))) ∧ w9 = [oX8 (d 0) (N 0) (d 1) (d 2) (N 3) (d 3) (N 5) (d 4) (d 5) (d 6) (N 9) (d 7) (N 11) (N 12) (N 13) (N 14) (N 15) (N 16) (N 17) (N 18) (N 19) (N 20) (N 21) (N 22) (N 23) (N 24) (N 25) (N 26) (N 27) (N 28), arI X (d 1) 122 w, arI X (d 5) 122 w]) 0 0 := by
  refine lo_enter (cc := cX8_tryBudget) (maxL := 6) (ret := (some .int)) (lv := [(0, .ref (d 0)), (1, .int (iI bu)), (2, .int (iI y))]) (by decide) rfl rfl (Nat.le_of_ble_eq_true rfl) ?_
  intro p9 e9 s9 m9 bl9 me9 c9 A9 ls hAe E hRt hLk hK hl hw
  have Ex := E.1
  have Eb := E.2.1
  have huRX8 : ∀ w ∈ u_ws RX8 TX8 29, w ∈ wsX8_tryBudget := by decide +kernel
  have hf9 : (Cond.fieldLink RX8 9 "LoanScheduleModel" "w" "[I").before _ s9 = true := E.2.2.2.2 _ (List.mem_of_getElem? (i := 1) rfl)
  have hf24 : (Cond.fieldLink RX8 24 "LoanScheduleModel" "aside" "[I").before _ s9 = true := E.2.2.2.2 _ (List.mem_of_getElem? (i := 2) rfl)
  have hf347 : (Cond.fieldLink RX8 347 "LoanScheduleModel" "budgetCost" "I").before _ s9 = true := E.2.2.2.2 _ (List.mem_of_getElem? (i := 3) rfl)
  obtain ⟨⟨hn0, hn1⟩, ⟨hb0, hb1⟩, hL⟩ := id hWI
  refine lv_aload_n Ex Eb dX8_tryBudget_0 rfl (lv_at hl 0 rfl) ?_
  refine lo_get E hK hw huRX8 1 hf9 rfl 0 rfl rfl (by decide) (v := .ref (d 1)) rfl dX8_tryBudget_1 ?_
  refine lv_aload_n Ex Eb dX8_tryBudget_4 rfl (lv_at hl 0 rfl) ?_
  refine lo_get E hK hw huRX8 7 hf24 rfl 0 rfl rfl (by decide) (v := .ref (d 5)) rfl dX8_tryBudget_5 ?_
  refine lo_callS (rest := []) E hK hw (kX8_copy l X (d 1) (d 5) w g ) (cwS 2 E.2.2.2.2 gX8_tryBudget_X8_copy rfl rfl rfl (by decide +kernel) ⟨Nat.le_of_ble_eq_true rfl, Nat.le_of_ble_eq_true rfl⟩) [1, 2] rfl (by decide) hl.1 rfl rfl (Nat.le_of_ble_eq_true rfl) dX8_tryBudget_8 ⟨Nat.le_of_ble_eq_true rfl, Nat.le_of_ble_eq_true rfl⟩ (fun v w1 H locs hq hw => ?_)
  obtain ⟨rfl, rfl⟩ := hq
  have hw : lo_Wd X ([oX8 (d 0) (M 0) (d 1) (d 2) (M 3) (d 3) (M 5) (d 4) (d 5) (d 6) (M 9) (d 7) (M 11) (M 12) (M 13) (M 14) (M 15) (M 16) (M 17) (M 18) (M 19) (M 20) (M 21) (M 22) (M 23) (M 24) (M 25) (M 26) (M 27) (M 28), arI X (d 1) 122 w, arI X (d 5) 122 w]) A9 s9.heap H locs := hw
  refine W.eq (g2 := F0 m9 11 ls []) rfl ?_
  refine lv_aload_n Ex Eb dX8_tryBudget_11 rfl (lv_at hl 0 rfl) ?_
  refine lo_callV (q0 := 0) (rest := []) E hK hw (kX8_interestOfAll l X d M w (hWI)) (cwV 0 E.2.2.2.2 gX8_tryBudget_X8_interestOfAll rfl rfl rfl (by decide +kernel) ⟨Nat.le_of_ble_eq_true rfl, Nat.le_of_ble_eq_true rfl⟩) rfl rfl [0, 1] rfl (by decide) hl.1 rfl rfl (Nat.le_of_ble_eq_true rfl) dX8_tryBudget_12 ⟨Nat.le_of_ble_eq_true rfl, Nat.le_of_ble_eq_true rfl⟩ (fun v w1 H locs hq hw => ?_)
  obtain ⟨rfl, rfl⟩ := hq
  have hw : lo_Wd X ([oX8 (d 0) (M 0) (d 1) (d 2) (M 3) (d 3) (M 5) (d 4) (d 5) (d 6) (M 9) (d 7) (M 11) (M 12) (M 13) (M 14) (M 15) (M 16) (M 17) (M 18) (M 19) (M 20) (M 21) (M 22) (M 23) (M 24) (M 25) (M 26) (M 27) (M 28), arI X (d 1) 122 w, arI X (d 5) 122 w]) A9 s9.heap H locs := hw
  refine W.eq (g2 := F0 m9 15 ls [.int (iI (wFld w 6 (w 0).toNat))]) rfl ?_
  refine lv_istore_n (lv' := [(3, .int (iI (wFld w 6 (w 0).toNat))), (0, .ref (d 0)), (1, .int (iI bu)), (2, .int (iI y))]) Ex Eb dX8_tryBudget_15 rfl hl (by decide) rfl (fun ls hl => ?_)
  refine lv_iconst (v := iI 0) Ex Eb dX8_tryBudget_16 rfl ?_
  refine lv_istore (lv' := [(4, .int (iI 0)), (3, .int (iI (wFld w 6 (w 0).toNat))), (0, .ref (d 0)), (1, .int (iI bu)), (2, .int (iI y))]) Ex Eb dX8_tryBudget_17 hl (by decide) rfl (fun ls hl => ?_)
  have lp19 : ∀ (n : Nat) (K u : Nat → Int) (mo : Int) (fu : Nat), fu < n → (sameW M K) → (WI u ∧ u 0 = w 0) → (MB u fu) → (wbF bu y fu u mo = wbF bu y 120 w 0) → ∀ (H : Heap) (locs : List Loc) (ls : Array Slot), lo_Wd X ([oX8 (d 0) (K 0) (d 1) (d 2) (K 3) (d 3) (K 5) (d 4) (d 5) (d 6) (K 9) (d 7) (K 11) (K 12) (K 13) (K 14) (K 15) (K 16) (K 17) (K 18) (K 19) (K 20) (K 21) (K 22) (K 23) (K 24) (K 25) (K 26) (K 27) (K 28), arI X (d 1) 122 u, arI X (d 5) 122 w]) A9 s9.heap H locs → lv_has ls 6 [(0, .ref (d 0)), (1, .int (iI bu)), (2, .int (iI y)), (3, .int (iI (wFld w 6 (w 0).toNat))), (4, .int (iI mo))] → W p9 l e9 ({ frames := 7, cells := 0, slots := 0, locals := 176 } : Room) s9 m9 ([.ref (d 0), .int (iI bu), .int (iI y)] : List Value).toArray bl9 me9 c9 H locs 0 0 (MQ bl9 (lo_Qc X ([oX8 (d 0) (M 0) (d 1) (d 2) (M 3) (d 3) (M 5) (d 4) (d 5) (d 6) (M 9) (d 7) (M 11) (M 12) (M 13) (M 14) (M 15) (M 16) (M 17) (M 18) (M 19) (M 20) (M 21) (M 22) (M 23) (M 24) (M 25) (M 26) (M 27) (M 28), arI X (d 1) 122 w, arI X (d 5) 122 g]) s9.heap.size (fun v9 w9 => ∃ N : Nat → Int, (sameP M N) ∧ (N 0 = M 0) ∧ (N 28 = wFld (wbF bu y 120 w 0).1 6 (w 0).toNat - wFld w 6 (w 0).toNat) ∧ v9 = some (.int (iI ((wbF bu y 120 w 0).2))) ∧ w9 = [oX8 (d 0) (N 0) (d 1) (d 2) (N 3) (d 3) (N 5) (d 4) (d 5) (d 6) (N 9) (d 7) (N 11) (N 12) (N 13) (N 14) (N 15) (N 16) (N 17) (N 18) (N 19) (N 20) (N 21) (N 22) (N 23) (N 24) (N 25) (N 26) (N 27) (N 28), arI X (d 1) 122 w, arI X (d 5) 122 w])) ([.ref (d 0), .int (iI bu), .int (iI y)] : List Value).toArray s9 0 0 A9) (F0 m9 19 ls []) := by
    intro n
    induction n with
    | zero => intro K u mo fu hn; exact absurd hn (Nat.not_lt_zero _)
    | succ n ih19 =>
      intro K u mo fu hn19 iv19_0 iv19_1 iv19_2 iv19_3 H locs ls hw hl
      have hu0 := iv19_1.2
      have hd9 := wDue_r iv19_1.1 (u 0).toNat (by omega)
      have hcm := cnt_m (LWf u) (u 0).toNat
      have hc0 := cnt_0 (LWf u) (u 0).toNat
      refine lv_aload_n Ex Eb dX8_tryBudget_19 rfl (lv_at hl 0 rfl) ?_
      refine lo_callV (q0 := 0) (rest := []) E hK hw (kX8_openLoans l X d K u (iv19_1.1)) (cwV 0 E.2.2.2.2 gX8_tryBudget_X8_openLoans rfl rfl rfl (by decide +kernel) ⟨Nat.le_of_ble_eq_true rfl, Nat.le_of_ble_eq_true rfl⟩) rfl rfl [0, 1] rfl (by decide) hl.1 rfl rfl (Nat.le_of_ble_eq_true rfl) dX8_tryBudget_20 ⟨Nat.le_of_ble_eq_true rfl, Nat.le_of_ble_eq_true rfl⟩ (fun v w1 H locs hq hw => ?_)
      obtain ⟨rfl, rfl⟩ := hq
      have hw : lo_Wd X ([oX8 (d 0) (K 0) (d 1) (d 2) (K 3) (d 3) (K 5) (d 4) (d 5) (d 6) (K 9) (d 7) (K 11) (K 12) (K 13) (K 14) (K 15) (K 16) (K 17) (K 18) (K 19) (K 20) (K 21) (K 22) (K 23) (K 24) (K 25) (K 26) (K 27) (K 28), arI X (d 1) 122 u, arI X (d 5) 122 w]) A9 s9.heap H locs := hw
      refine W.eq (g2 := F0 m9 23 ls [.int (iI (cnt (LWf u) (u 0).toNat))]) rfl ?_
      refine lo_if_le (tgt := 46) E dX8_tryBudget_23 (by decide) (by omega) (fun c1 => ?_) (fun c1 => ?_)
      · skip
        refine lv_aload_n Ex Eb dX8_tryBudget_46 rfl (lv_at hl 0 rfl) ?_
        refine lo_callV (q0 := 0) (rest := []) E hK hw (kX8_openLoans l X d K u (iv19_1.1)) (cwV 0 E.2.2.2.2 gX8_tryBudget_X8_openLoans rfl rfl rfl (by decide +kernel) ⟨Nat.le_of_ble_eq_true rfl, Nat.le_of_ble_eq_true rfl⟩) rfl rfl [0, 1] rfl (by decide) hl.1 rfl rfl (Nat.le_of_ble_eq_true rfl) dX8_tryBudget_47 ⟨Nat.le_of_ble_eq_true rfl, Nat.le_of_ble_eq_true rfl⟩ (fun v w1 H locs hq hw => ?_)
        obtain ⟨rfl, rfl⟩ := hq
        have hw : lo_Wd X ([oX8 (d 0) (K 0) (d 1) (d 2) (K 3) (d 3) (K 5) (d 4) (d 5) (d 6) (K 9) (d 7) (K 11) (K 12) (K 13) (K 14) (K 15) (K 16) (K 17) (K 18) (K 19) (K 20) (K 21) (K 22) (K 23) (K 24) (K 25) (K 26) (K 27) (K 28), arI X (d 1) 122 u, arI X (d 5) 122 w]) A9 s9.heap H locs := hw
        refine W.eq (g2 := F0 m9 50 ls [.int (iI (cnt (LWf u) (u 0).toNat))]) rfl ?_
        refine lo_if_ne (tgt := 57) E dX8_tryBudget_50 (by decide) (by omega) (fun c2 => ?_) (fun c2 => ?_)
        · skip
          refine lv_iconst (v := iI 0) Ex Eb dX8_tryBudget_57 rfl ?_
          refine lv_istore (lv' := [(5, .int (iI 0)), (0, .ref (d 0)), (1, .int (iI bu)), (2, .int (iI y)), (3, .int (iI (wFld w 6 (w 0).toNat))), (4, .int (iI mo))]) Ex Eb dX8_tryBudget_58 hl (by decide) rfl (fun ls hl => ?_)
          refine lv_aload_n Ex Eb dX8_tryBudget_60 rfl (lv_at hl 1 rfl) ?_
          refine lv_aload_n Ex Eb dX8_tryBudget_61 rfl (lv_at hl 1 rfl) ?_
          refine lo_callV (q0 := 0) (rest := [.ref (d 0)]) E hK hw (kX8_interestOfAll l X d K u (iv19_1.1)) (cwV 0 E.2.2.2.2 gX8_tryBudget_X8_interestOfAll rfl rfl rfl (by decide +kernel) ⟨Nat.le_of_ble_eq_true rfl, Nat.le_of_ble_eq_true rfl⟩) rfl rfl [0, 1] rfl (by decide) hl.1 rfl rfl (Nat.le_of_ble_eq_true rfl) dX8_tryBudget_62 ⟨Nat.le_of_ble_eq_true rfl, Nat.le_of_ble_eq_true rfl⟩ (fun v w1 H locs hq hw => ?_)
          obtain ⟨rfl, rfl⟩ := hq
          have hw : lo_Wd X ([oX8 (d 0) (K 0) (d 1) (d 2) (K 3) (d 3) (K 5) (d 4) (d 5) (d 6) (K 9) (d 7) (K 11) (K 12) (K 13) (K 14) (K 15) (K 16) (K 17) (K 18) (K 19) (K 20) (K 21) (K 22) (K 23) (K 24) (K 25) (K 26) (K 27) (K 28), arI X (d 1) 122 u, arI X (d 5) 122 w]) A9 s9.heap H locs := hw
          refine W.eq (g2 := F0 m9 65 ls [.int (iI (wFld u 6 (u 0).toNat)), .ref (d 0)]) rfl ?_
          refine lv_iload_n Ex Eb dX8_tryBudget_65 rfl (lv_at hl 4 rfl) ?_
          refine lo_isub E dX8_tryBudget_66 ?_
          refine lo_put E hK hw huRX8 tyX8 tyX8_ok nmX8 28 hf347 rfl 0 rfl rfl (by decide) rfl rfl rfl rfl (Nat.le_of_ble_eq_true rfl) (ws' := [oX8 (d 0) (K 0) (d 1) (d 2) (K 3) (d 3) (K 5) (d 4) (d 5) (d 6) (K 9) (d 7) (K 11) (K 12) (K 13) (K 14) (K 15) (K 16) (K 17) (K 18) (K 19) (K 20) (K 21) (K 22) (K 23) (K 24) (K 25) (K 26) (K 27) (wFld u 6 (u 0).toNat - (wFld w 6 (w 0).toNat)), arI X (d 1) 122 u, arI X (d 5) 122 w]) rfl dX8_tryBudget_67 (fun H locs hw => ?_)
          refine lv_aload_n Ex Eb dX8_tryBudget_70 rfl (lv_at hl 1 rfl) ?_
          refine lo_get E hK hw huRX8 7 hf24 rfl 0 rfl rfl (by decide) (v := .ref (d 5)) rfl dX8_tryBudget_71 ?_
          refine lv_aload_n Ex Eb dX8_tryBudget_74 rfl (lv_at hl 1 rfl) ?_
          refine lo_get E hK hw huRX8 1 hf9 rfl 0 rfl rfl (by decide) (v := .ref (d 1)) rfl dX8_tryBudget_75 ?_
          refine lo_callS (rest := []) E hK hw (kX8_copy l X (d 5) (d 1) w u ) (cwS 2 E.2.2.2.2 gX8_tryBudget_X8_copy rfl rfl rfl (by decide +kernel) ⟨Nat.le_of_ble_eq_true rfl, Nat.le_of_ble_eq_true rfl⟩) [2, 1] rfl (by decide) hl.1 rfl rfl (Nat.le_of_ble_eq_true rfl) dX8_tryBudget_78 ⟨Nat.le_of_ble_eq_true rfl, Nat.le_of_ble_eq_true rfl⟩ (fun v w1 H locs hq hw => ?_)
          obtain ⟨rfl, rfl⟩ := hq
          have hw : lo_Wd X ([oX8 (d 0) (K 0) (d 1) (d 2) (K 3) (d 3) (K 5) (d 4) (d 5) (d 6) (K 9) (d 7) (K 11) (K 12) (K 13) (K 14) (K 15) (K 16) (K 17) (K 18) (K 19) (K 20) (K 21) (K 22) (K 23) (K 24) (K 25) (K 26) (K 27) (wFld u 6 (u 0).toNat - (wFld w 6 (w 0).toNat)), arI X (d 1) 122 w, arI X (d 5) 122 w]) A9 s9.heap H locs := hw
          refine W.eq (g2 := F0 m9 81 ls []) rfl ?_
          refine lv_iload Ex Eb dX8_tryBudget_81 (lv_at hl 0 rfl) ?_
          refine lo_if_eq (tgt := 91) E dX8_tryBudget_83 (by decide) (by omega) (fun c3 => ?_) (fun c3 => ?_)
          · skip
            refine lv_iconst (v := iI (-1)) Ex Eb dX8_tryBudget_91 rfl ?_
            exact lo_iret E hRt hLk hK hAe hw dX8_tryBudget_92 rfl ⟨uI K 28 (wFld u 6 (u 0).toNat - (wFld w 6 (w 0).toNat)), (by first | exact (sameP_s iv19_0).tr sameP_b | exact (sameP_s (iv19_0.tr q27_0)).tr sameP_b), (by first | exact (uI_n (by omega)).trans (sameW_0 iv19_0) | exact (uI_n (by omega)).trans (sameW_0 (iv19_0.tr q27_0))), (by rw [← iv19_3, ← hu0]; first | (exfalso; omega) | (rw [wbF_e (by omega)]; exact uI_s) | (rw [wbF_n hfu (by omega) (by omega)]; exact uI_s)), by rw [← iv19_3]; first | (exfalso; omega) | (rw [wbF_e (by omega)]) | (rw [wbF_n hfu (by omega) (by omega)]), rfl⟩
          · skip
            refine lv_iload Ex Eb dX8_tryBudget_86 (lv_at hl 5 rfl) ?_
            refine lv_goto (tgt := 92) Ex Eb dX8_tryBudget_88 (by decide) ?_
            exact lo_iret E hRt hLk hK hAe hw dX8_tryBudget_92 rfl ⟨uI K 28 (wFld u 6 (u 0).toNat - (wFld w 6 (w 0).toNat)), (by first | exact (sameP_s iv19_0).tr sameP_b | exact (sameP_s (iv19_0.tr q27_0)).tr sameP_b), (by first | exact (uI_n (by omega)).trans (sameW_0 iv19_0) | exact (uI_n (by omega)).trans (sameW_0 (iv19_0.tr q27_0))), (by rw [← iv19_3, ← hu0]; first | (exfalso; omega) | (rw [wbF_e (by omega)]; exact uI_s) | (rw [wbF_n hfu (by omega) (by omega)]; exact uI_s)), by rw [← iv19_3]; first | (exfalso; omega) | (rw [wbF_e (by omega)]) | (rw [wbF_n hfu (by omega) (by omega)]), rfl⟩
        · skip
          refine lv_iconst (v := iI 1) Ex Eb dX8_tryBudget_53 rfl ?_
          refine lv_goto (tgt := 58) Ex Eb dX8_tryBudget_54 (by decide) ?_
          refine lv_istore (lv' := [(5, .int (iI 1)), (0, .ref (d 0)), (1, .int (iI bu)), (2, .int (iI y)), (3, .int (iI (wFld w 6 (w 0).toNat))), (4, .int (iI mo))]) Ex Eb dX8_tryBudget_58 hl (by decide) rfl (fun ls hl => ?_)
          refine lv_aload_n Ex Eb dX8_tryBudget_60 rfl (lv_at hl 1 rfl) ?_
          refine lv_aload_n Ex Eb dX8_tryBudget_61 rfl (lv_at hl 1 rfl) ?_
          refine lo_callV (q0 := 0) (rest := [.ref (d 0)]) E hK hw (kX8_interestOfAll l X d K u (iv19_1.1)) (cwV 0 E.2.2.2.2 gX8_tryBudget_X8_interestOfAll rfl rfl rfl (by decide +kernel) ⟨Nat.le_of_ble_eq_true rfl, Nat.le_of_ble_eq_true rfl⟩) rfl rfl [0, 1] rfl (by decide) hl.1 rfl rfl (Nat.le_of_ble_eq_true rfl) dX8_tryBudget_62 ⟨Nat.le_of_ble_eq_true rfl, Nat.le_of_ble_eq_true rfl⟩ (fun v w1 H locs hq hw => ?_)
          obtain ⟨rfl, rfl⟩ := hq
          have hw : lo_Wd X ([oX8 (d 0) (K 0) (d 1) (d 2) (K 3) (d 3) (K 5) (d 4) (d 5) (d 6) (K 9) (d 7) (K 11) (K 12) (K 13) (K 14) (K 15) (K 16) (K 17) (K 18) (K 19) (K 20) (K 21) (K 22) (K 23) (K 24) (K 25) (K 26) (K 27) (K 28), arI X (d 1) 122 u, arI X (d 5) 122 w]) A9 s9.heap H locs := hw
          refine W.eq (g2 := F0 m9 65 ls [.int (iI (wFld u 6 (u 0).toNat)), .ref (d 0)]) rfl ?_
          refine lv_iload_n Ex Eb dX8_tryBudget_65 rfl (lv_at hl 4 rfl) ?_
          refine lo_isub E dX8_tryBudget_66 ?_
          refine lo_put E hK hw huRX8 tyX8 tyX8_ok nmX8 28 hf347 rfl 0 rfl rfl (by decide) rfl rfl rfl rfl (Nat.le_of_ble_eq_true rfl) (ws' := [oX8 (d 0) (K 0) (d 1) (d 2) (K 3) (d 3) (K 5) (d 4) (d 5) (d 6) (K 9) (d 7) (K 11) (K 12) (K 13) (K 14) (K 15) (K 16) (K 17) (K 18) (K 19) (K 20) (K 21) (K 22) (K 23) (K 24) (K 25) (K 26) (K 27) (wFld u 6 (u 0).toNat - (wFld w 6 (w 0).toNat)), arI X (d 1) 122 u, arI X (d 5) 122 w]) rfl dX8_tryBudget_67 (fun H locs hw => ?_)
          refine lv_aload_n Ex Eb dX8_tryBudget_70 rfl (lv_at hl 1 rfl) ?_
          refine lo_get E hK hw huRX8 7 hf24 rfl 0 rfl rfl (by decide) (v := .ref (d 5)) rfl dX8_tryBudget_71 ?_
          refine lv_aload_n Ex Eb dX8_tryBudget_74 rfl (lv_at hl 1 rfl) ?_
          refine lo_get E hK hw huRX8 1 hf9 rfl 0 rfl rfl (by decide) (v := .ref (d 1)) rfl dX8_tryBudget_75 ?_
          refine lo_callS (rest := []) E hK hw (kX8_copy l X (d 5) (d 1) w u ) (cwS 2 E.2.2.2.2 gX8_tryBudget_X8_copy rfl rfl rfl (by decide +kernel) ⟨Nat.le_of_ble_eq_true rfl, Nat.le_of_ble_eq_true rfl⟩) [2, 1] rfl (by decide) hl.1 rfl rfl (Nat.le_of_ble_eq_true rfl) dX8_tryBudget_78 ⟨Nat.le_of_ble_eq_true rfl, Nat.le_of_ble_eq_true rfl⟩ (fun v w1 H locs hq hw => ?_)
          obtain ⟨rfl, rfl⟩ := hq
          have hw : lo_Wd X ([oX8 (d 0) (K 0) (d 1) (d 2) (K 3) (d 3) (K 5) (d 4) (d 5) (d 6) (K 9) (d 7) (K 11) (K 12) (K 13) (K 14) (K 15) (K 16) (K 17) (K 18) (K 19) (K 20) (K 21) (K 22) (K 23) (K 24) (K 25) (K 26) (K 27) (wFld u 6 (u 0).toNat - (wFld w 6 (w 0).toNat)), arI X (d 1) 122 w, arI X (d 5) 122 w]) A9 s9.heap H locs := hw
          refine W.eq (g2 := F0 m9 81 ls []) rfl ?_
          refine lv_iload Ex Eb dX8_tryBudget_81 (lv_at hl 0 rfl) ?_
          refine lo_if_eq (tgt := 91) E dX8_tryBudget_83 (by decide) (by omega) (fun c4 => ?_) (fun c4 => ?_)
          · skip
            refine lv_iconst (v := iI (-1)) Ex Eb dX8_tryBudget_91 rfl ?_
            exact lo_iret E hRt hLk hK hAe hw dX8_tryBudget_92 rfl ⟨uI K 28 (wFld u 6 (u 0).toNat - (wFld w 6 (w 0).toNat)), (by first | exact (sameP_s iv19_0).tr sameP_b | exact (sameP_s (iv19_0.tr q27_0)).tr sameP_b), (by first | exact (uI_n (by omega)).trans (sameW_0 iv19_0) | exact (uI_n (by omega)).trans (sameW_0 (iv19_0.tr q27_0))), (by rw [← iv19_3, ← hu0]; first | (exfalso; omega) | (rw [wbF_e (by omega)]; exact uI_s) | (rw [wbF_n hfu (by omega) (by omega)]; exact uI_s)), by rw [← iv19_3]; first | (exfalso; omega) | (rw [wbF_e (by omega)]) | (rw [wbF_n hfu (by omega) (by omega)]), rfl⟩
          · skip
            refine lv_iload Ex Eb dX8_tryBudget_86 (lv_at hl 5 rfl) ?_
            refine lv_goto (tgt := 92) Ex Eb dX8_tryBudget_88 (by decide) ?_
            exact lo_iret E hRt hLk hK hAe hw dX8_tryBudget_92 rfl ⟨uI K 28 (wFld u 6 (u 0).toNat - (wFld w 6 (w 0).toNat)), (by first | exact (sameP_s iv19_0).tr sameP_b | exact (sameP_s (iv19_0.tr q27_0)).tr sameP_b), (by first | exact (uI_n (by omega)).trans (sameW_0 iv19_0) | exact (uI_n (by omega)).trans (sameW_0 (iv19_0.tr q27_0))), (by rw [← iv19_3, ← hu0]; first | (exfalso; omega) | (rw [wbF_e (by omega)]; exact uI_s) | (rw [wbF_n hfu (by omega) (by omega)]; exact uI_s)), by rw [← iv19_3]; first | (exfalso; omega) | (rw [wbF_e (by omega)]) | (rw [wbF_n hfu (by omega) (by omega)]), rfl⟩
      · skip
        have hfu := MB_1 iv19_1.1 iv19_2 (by omega)
        refine lv_aload_n Ex Eb dX8_tryBudget_26 rfl (lv_at hl 0 rfl) ?_
        refine lo_callV (q0 := 0) (rest := []) E hK hw (kX8_dueOfAll l X d K u (iv19_1.1)) (cwV 0 E.2.2.2.2 gX8_tryBudget_X8_dueOfAll rfl rfl rfl (by decide +kernel) ⟨Nat.le_of_ble_eq_true rfl, Nat.le_of_ble_eq_true rfl⟩) rfl rfl [0, 1] rfl (by decide) hl.1 rfl rfl (Nat.le_of_ble_eq_true rfl) dX8_tryBudget_27 ⟨Nat.le_of_ble_eq_true rfl, Nat.le_of_ble_eq_true rfl⟩ (fun v w1 H locs hq hw => ?_)
        obtain ⟨N5, q27_0, rfl, rfl⟩ := hq
        have hw : lo_Wd X ([oX8 (d 0) (N5 0) (d 1) (d 2) (N5 3) (d 3) (N5 5) (d 4) (d 5) (d 6) (N5 9) (d 7) (N5 11) (N5 12) (N5 13) (N5 14) (N5 15) (N5 16) (N5 17) (N5 18) (N5 19) (N5 20) (N5 21) (N5 22) (N5 23) (N5 24) (N5 25) (N5 26) (N5 27) (N5 28), arI X (d 1) 122 u, arI X (d 5) 122 w]) A9 s9.heap H locs := hw
        refine W.eq (g2 := F0 m9 30 ls [.int (iI (wDue u (u 0).toNat))]) rfl ?_
        refine lv_iload_n Ex Eb dX8_tryBudget_30 rfl (lv_at hl 1 rfl) ?_
        refine lo_icmp_gt (tgt := 46) E dX8_tryBudget_31 (by decide) (by omega) (by omega) (fun c6 => ?_) (fun c6 => ?_)
        · skip
          refine lv_aload_n Ex Eb dX8_tryBudget_46 rfl (lv_at hl 0 rfl) ?_
          refine lo_callV (q0 := 0) (rest := []) E hK hw (kX8_openLoans l X d N5 u (iv19_1.1)) (cwV 0 E.2.2.2.2 gX8_tryBudget_X8_openLoans rfl rfl rfl (by decide +kernel) ⟨Nat.le_of_ble_eq_true rfl, Nat.le_of_ble_eq_true rfl⟩) rfl rfl [0, 1] rfl (by decide) hl.1 rfl rfl (Nat.le_of_ble_eq_true rfl) dX8_tryBudget_47 ⟨Nat.le_of_ble_eq_true rfl, Nat.le_of_ble_eq_true rfl⟩ (fun v w1 H locs hq hw => ?_)
          obtain ⟨rfl, rfl⟩ := hq
          have hw : lo_Wd X ([oX8 (d 0) (N5 0) (d 1) (d 2) (N5 3) (d 3) (N5 5) (d 4) (d 5) (d 6) (N5 9) (d 7) (N5 11) (N5 12) (N5 13) (N5 14) (N5 15) (N5 16) (N5 17) (N5 18) (N5 19) (N5 20) (N5 21) (N5 22) (N5 23) (N5 24) (N5 25) (N5 26) (N5 27) (N5 28), arI X (d 1) 122 u, arI X (d 5) 122 w]) A9 s9.heap H locs := hw
          refine W.eq (g2 := F0 m9 50 ls [.int (iI (cnt (LWf u) (u 0).toNat))]) rfl ?_
          refine lo_if_ne (tgt := 57) E dX8_tryBudget_50 (by decide) (by omega) (fun c7 => ?_) (fun c7 => ?_)
          · skip
            refine lv_iconst (v := iI 0) Ex Eb dX8_tryBudget_57 rfl ?_
            refine lv_istore (lv' := [(5, .int (iI 0)), (0, .ref (d 0)), (1, .int (iI bu)), (2, .int (iI y)), (3, .int (iI (wFld w 6 (w 0).toNat))), (4, .int (iI mo))]) Ex Eb dX8_tryBudget_58 hl (by decide) rfl (fun ls hl => ?_)
            refine lv_aload_n Ex Eb dX8_tryBudget_60 rfl (lv_at hl 1 rfl) ?_
            refine lv_aload_n Ex Eb dX8_tryBudget_61 rfl (lv_at hl 1 rfl) ?_
            refine lo_callV (q0 := 0) (rest := [.ref (d 0)]) E hK hw (kX8_interestOfAll l X d N5 u (iv19_1.1)) (cwV 0 E.2.2.2.2 gX8_tryBudget_X8_interestOfAll rfl rfl rfl (by decide +kernel) ⟨Nat.le_of_ble_eq_true rfl, Nat.le_of_ble_eq_true rfl⟩) rfl rfl [0, 1] rfl (by decide) hl.1 rfl rfl (Nat.le_of_ble_eq_true rfl) dX8_tryBudget_62 ⟨Nat.le_of_ble_eq_true rfl, Nat.le_of_ble_eq_true rfl⟩ (fun v w1 H locs hq hw => ?_)
            obtain ⟨rfl, rfl⟩ := hq
            have hw : lo_Wd X ([oX8 (d 0) (N5 0) (d 1) (d 2) (N5 3) (d 3) (N5 5) (d 4) (d 5) (d 6) (N5 9) (d 7) (N5 11) (N5 12) (N5 13) (N5 14) (N5 15) (N5 16) (N5 17) (N5 18) (N5 19) (N5 20) (N5 21) (N5 22) (N5 23) (N5 24) (N5 25) (N5 26) (N5 27) (N5 28), arI X (d 1) 122 u, arI X (d 5) 122 w]) A9 s9.heap H locs := hw
            refine W.eq (g2 := F0 m9 65 ls [.int (iI (wFld u 6 (u 0).toNat)), .ref (d 0)]) rfl ?_
            refine lv_iload_n Ex Eb dX8_tryBudget_65 rfl (lv_at hl 4 rfl) ?_
            refine lo_isub E dX8_tryBudget_66 ?_
            refine lo_put E hK hw huRX8 tyX8 tyX8_ok nmX8 28 hf347 rfl 0 rfl rfl (by decide) rfl rfl rfl rfl (Nat.le_of_ble_eq_true rfl) (ws' := [oX8 (d 0) (N5 0) (d 1) (d 2) (N5 3) (d 3) (N5 5) (d 4) (d 5) (d 6) (N5 9) (d 7) (N5 11) (N5 12) (N5 13) (N5 14) (N5 15) (N5 16) (N5 17) (N5 18) (N5 19) (N5 20) (N5 21) (N5 22) (N5 23) (N5 24) (N5 25) (N5 26) (N5 27) (wFld u 6 (u 0).toNat - (wFld w 6 (w 0).toNat)), arI X (d 1) 122 u, arI X (d 5) 122 w]) rfl dX8_tryBudget_67 (fun H locs hw => ?_)
            refine lv_aload_n Ex Eb dX8_tryBudget_70 rfl (lv_at hl 1 rfl) ?_
            refine lo_get E hK hw huRX8 7 hf24 rfl 0 rfl rfl (by decide) (v := .ref (d 5)) rfl dX8_tryBudget_71 ?_
            refine lv_aload_n Ex Eb dX8_tryBudget_74 rfl (lv_at hl 1 rfl) ?_
            refine lo_get E hK hw huRX8 1 hf9 rfl 0 rfl rfl (by decide) (v := .ref (d 1)) rfl dX8_tryBudget_75 ?_
            refine lo_callS (rest := []) E hK hw (kX8_copy l X (d 5) (d 1) w u ) (cwS 2 E.2.2.2.2 gX8_tryBudget_X8_copy rfl rfl rfl (by decide +kernel) ⟨Nat.le_of_ble_eq_true rfl, Nat.le_of_ble_eq_true rfl⟩) [2, 1] rfl (by decide) hl.1 rfl rfl (Nat.le_of_ble_eq_true rfl) dX8_tryBudget_78 ⟨Nat.le_of_ble_eq_true rfl, Nat.le_of_ble_eq_true rfl⟩ (fun v w1 H locs hq hw => ?_)
            obtain ⟨rfl, rfl⟩ := hq
            have hw : lo_Wd X ([oX8 (d 0) (N5 0) (d 1) (d 2) (N5 3) (d 3) (N5 5) (d 4) (d 5) (d 6) (N5 9) (d 7) (N5 11) (N5 12) (N5 13) (N5 14) (N5 15) (N5 16) (N5 17) (N5 18) (N5 19) (N5 20) (N5 21) (N5 22) (N5 23) (N5 24) (N5 25) (N5 26) (N5 27) (wFld u 6 (u 0).toNat - (wFld w 6 (w 0).toNat)), arI X (d 1) 122 w, arI X (d 5) 122 w]) A9 s9.heap H locs := hw
            refine W.eq (g2 := F0 m9 81 ls []) rfl ?_
            refine lv_iload Ex Eb dX8_tryBudget_81 (lv_at hl 0 rfl) ?_
            refine lo_if_eq (tgt := 91) E dX8_tryBudget_83 (by decide) (by omega) (fun c8 => ?_) (fun c8 => ?_)
            · skip
              refine lv_iconst (v := iI (-1)) Ex Eb dX8_tryBudget_91 rfl ?_
              exact lo_iret E hRt hLk hK hAe hw dX8_tryBudget_92 rfl ⟨uI N5 28 (wFld u 6 (u 0).toNat - (wFld w 6 (w 0).toNat)), (by first | exact (sameP_s iv19_0).tr sameP_b | exact (sameP_s (iv19_0.tr q27_0)).tr sameP_b), (by first | exact (uI_n (by omega)).trans (sameW_0 iv19_0) | exact (uI_n (by omega)).trans (sameW_0 (iv19_0.tr q27_0))), (by rw [← iv19_3, ← hu0]; first | (exfalso; omega) | (rw [wbF_e (by omega)]; exact uI_s) | (rw [wbF_n hfu (by omega) (by omega)]; exact uI_s)), by rw [← iv19_3]; first | (exfalso; omega) | (rw [wbF_e (by omega)]) | (rw [wbF_n hfu (by omega) (by omega)]), rfl⟩
            · skip
              refine lv_iload Ex Eb dX8_tryBudget_86 (lv_at hl 5 rfl) ?_
              refine lv_goto (tgt := 92) Ex Eb dX8_tryBudget_88 (by decide) ?_
              exact lo_iret E hRt hLk hK hAe hw dX8_tryBudget_92 rfl ⟨uI N5 28 (wFld u 6 (u 0).toNat - (wFld w 6 (w 0).toNat)), (by first | exact (sameP_s iv19_0).tr sameP_b | exact (sameP_s (iv19_0.tr q27_0)).tr sameP_b), (by first | exact (uI_n (by omega)).trans (sameW_0 iv19_0) | exact (uI_n (by omega)).trans (sameW_0 (iv19_0.tr q27_0))), (by rw [← iv19_3, ← hu0]; first | (exfalso; omega) | (rw [wbF_e (by omega)]; exact uI_s) | (rw [wbF_n hfu (by omega) (by omega)]; exact uI_s)), by rw [← iv19_3]; first | (exfalso; omega) | (rw [wbF_e (by omega)]) | (rw [wbF_n hfu (by omega) (by omega)]), rfl⟩
          · skip
            refine lv_iconst (v := iI 1) Ex Eb dX8_tryBudget_53 rfl ?_
            refine lv_goto (tgt := 58) Ex Eb dX8_tryBudget_54 (by decide) ?_
            refine lv_istore (lv' := [(5, .int (iI 1)), (0, .ref (d 0)), (1, .int (iI bu)), (2, .int (iI y)), (3, .int (iI (wFld w 6 (w 0).toNat))), (4, .int (iI mo))]) Ex Eb dX8_tryBudget_58 hl (by decide) rfl (fun ls hl => ?_)
            refine lv_aload_n Ex Eb dX8_tryBudget_60 rfl (lv_at hl 1 rfl) ?_
            refine lv_aload_n Ex Eb dX8_tryBudget_61 rfl (lv_at hl 1 rfl) ?_
            refine lo_callV (q0 := 0) (rest := [.ref (d 0)]) E hK hw (kX8_interestOfAll l X d N5 u (iv19_1.1)) (cwV 0 E.2.2.2.2 gX8_tryBudget_X8_interestOfAll rfl rfl rfl (by decide +kernel) ⟨Nat.le_of_ble_eq_true rfl, Nat.le_of_ble_eq_true rfl⟩) rfl rfl [0, 1] rfl (by decide) hl.1 rfl rfl (Nat.le_of_ble_eq_true rfl) dX8_tryBudget_62 ⟨Nat.le_of_ble_eq_true rfl, Nat.le_of_ble_eq_true rfl⟩ (fun v w1 H locs hq hw => ?_)
            obtain ⟨rfl, rfl⟩ := hq
            have hw : lo_Wd X ([oX8 (d 0) (N5 0) (d 1) (d 2) (N5 3) (d 3) (N5 5) (d 4) (d 5) (d 6) (N5 9) (d 7) (N5 11) (N5 12) (N5 13) (N5 14) (N5 15) (N5 16) (N5 17) (N5 18) (N5 19) (N5 20) (N5 21) (N5 22) (N5 23) (N5 24) (N5 25) (N5 26) (N5 27) (N5 28), arI X (d 1) 122 u, arI X (d 5) 122 w]) A9 s9.heap H locs := hw
            refine W.eq (g2 := F0 m9 65 ls [.int (iI (wFld u 6 (u 0).toNat)), .ref (d 0)]) rfl ?_
            refine lv_iload_n Ex Eb dX8_tryBudget_65 rfl (lv_at hl 4 rfl) ?_
            refine lo_isub E dX8_tryBudget_66 ?_
            refine lo_put E hK hw huRX8 tyX8 tyX8_ok nmX8 28 hf347 rfl 0 rfl rfl (by decide) rfl rfl rfl rfl (Nat.le_of_ble_eq_true rfl) (ws' := [oX8 (d 0) (N5 0) (d 1) (d 2) (N5 3) (d 3) (N5 5) (d 4) (d 5) (d 6) (N5 9) (d 7) (N5 11) (N5 12) (N5 13) (N5 14) (N5 15) (N5 16) (N5 17) (N5 18) (N5 19) (N5 20) (N5 21) (N5 22) (N5 23) (N5 24) (N5 25) (N5 26) (N5 27) (wFld u 6 (u 0).toNat - (wFld w 6 (w 0).toNat)), arI X (d 1) 122 u, arI X (d 5) 122 w]) rfl dX8_tryBudget_67 (fun H locs hw => ?_)
            refine lv_aload_n Ex Eb dX8_tryBudget_70 rfl (lv_at hl 1 rfl) ?_
            refine lo_get E hK hw huRX8 7 hf24 rfl 0 rfl rfl (by decide) (v := .ref (d 5)) rfl dX8_tryBudget_71 ?_
            refine lv_aload_n Ex Eb dX8_tryBudget_74 rfl (lv_at hl 1 rfl) ?_
            refine lo_get E hK hw huRX8 1 hf9 rfl 0 rfl rfl (by decide) (v := .ref (d 1)) rfl dX8_tryBudget_75 ?_
            refine lo_callS (rest := []) E hK hw (kX8_copy l X (d 5) (d 1) w u ) (cwS 2 E.2.2.2.2 gX8_tryBudget_X8_copy rfl rfl rfl (by decide +kernel) ⟨Nat.le_of_ble_eq_true rfl, Nat.le_of_ble_eq_true rfl⟩) [2, 1] rfl (by decide) hl.1 rfl rfl (Nat.le_of_ble_eq_true rfl) dX8_tryBudget_78 ⟨Nat.le_of_ble_eq_true rfl, Nat.le_of_ble_eq_true rfl⟩ (fun v w1 H locs hq hw => ?_)
            obtain ⟨rfl, rfl⟩ := hq
            have hw : lo_Wd X ([oX8 (d 0) (N5 0) (d 1) (d 2) (N5 3) (d 3) (N5 5) (d 4) (d 5) (d 6) (N5 9) (d 7) (N5 11) (N5 12) (N5 13) (N5 14) (N5 15) (N5 16) (N5 17) (N5 18) (N5 19) (N5 20) (N5 21) (N5 22) (N5 23) (N5 24) (N5 25) (N5 26) (N5 27) (wFld u 6 (u 0).toNat - (wFld w 6 (w 0).toNat)), arI X (d 1) 122 w, arI X (d 5) 122 w]) A9 s9.heap H locs := hw
            refine W.eq (g2 := F0 m9 81 ls []) rfl ?_
            refine lv_iload Ex Eb dX8_tryBudget_81 (lv_at hl 0 rfl) ?_
            refine lo_if_eq (tgt := 91) E dX8_tryBudget_83 (by decide) (by omega) (fun c9 => ?_) (fun c9 => ?_)
            · skip
              refine lv_iconst (v := iI (-1)) Ex Eb dX8_tryBudget_91 rfl ?_
              exact lo_iret E hRt hLk hK hAe hw dX8_tryBudget_92 rfl ⟨uI N5 28 (wFld u 6 (u 0).toNat - (wFld w 6 (w 0).toNat)), (by first | exact (sameP_s iv19_0).tr sameP_b | exact (sameP_s (iv19_0.tr q27_0)).tr sameP_b), (by first | exact (uI_n (by omega)).trans (sameW_0 iv19_0) | exact (uI_n (by omega)).trans (sameW_0 (iv19_0.tr q27_0))), (by rw [← iv19_3, ← hu0]; first | (exfalso; omega) | (rw [wbF_e (by omega)]; exact uI_s) | (rw [wbF_n hfu (by omega) (by omega)]; exact uI_s)), by rw [← iv19_3]; first | (exfalso; omega) | (rw [wbF_e (by omega)]) | (rw [wbF_n hfu (by omega) (by omega)]), rfl⟩
            · skip
              refine lv_iload Ex Eb dX8_tryBudget_86 (lv_at hl 5 rfl) ?_
              refine lv_goto (tgt := 92) Ex Eb dX8_tryBudget_88 (by decide) ?_
              exact lo_iret E hRt hLk hK hAe hw dX8_tryBudget_92 rfl ⟨uI N5 28 (wFld u 6 (u 0).toNat - (wFld w 6 (w 0).toNat)), (by first | exact (sameP_s iv19_0).tr sameP_b | exact (sameP_s (iv19_0.tr q27_0)).tr sameP_b), (by first | exact (uI_n (by omega)).trans (sameW_0 iv19_0) | exact (uI_n (by omega)).trans (sameW_0 (iv19_0.tr q27_0))), (by rw [← iv19_3, ← hu0]; first | (exfalso; omega) | (rw [wbF_e (by omega)]; exact uI_s) | (rw [wbF_n hfu (by omega) (by omega)]; exact uI_s)), by rw [← iv19_3]; first | (exfalso; omega) | (rw [wbF_e (by omega)]) | (rw [wbF_n hfu (by omega) (by omega)]), rfl⟩
        · skip
          refine lv_aload_n Ex Eb dX8_tryBudget_34 rfl (lv_at hl 0 rfl) ?_
          refine lv_iload_n Ex Eb dX8_tryBudget_35 rfl (lv_at hl 1 rfl) ?_
          refine lv_iload_n Ex Eb dX8_tryBudget_36 rfl (lv_at hl 2 rfl) ?_
          refine lo_callV (q0 := 0) (rest := []) E hK hw (kX8_spendBudget l X d N5 u bu y (iv19_1.1) (hbu) (hy)) (cwV 2 E.2.2.2.2 gX8_tryBudget_X8_spendBudget rfl rfl rfl (by decide +kernel) ⟨Nat.le_of_ble_eq_true rfl, Nat.le_of_ble_eq_true rfl⟩) rfl rfl [0, 1] rfl (by decide) hl.1 rfl rfl (Nat.le_of_ble_eq_true rfl) dX8_tryBudget_37 ⟨Nat.le_of_ble_eq_true rfl, Nat.le_of_ble_eq_true rfl⟩ (fun v w1 H locs hq hw => ?_)
          obtain ⟨N10, q37_0, rfl, rfl⟩ := hq
          have hw : lo_Wd X ([oX8 (d 0) (N10 0) (d 1) (d 2) (N10 3) (d 3) (N10 5) (d 4) (d 5) (d 6) (N10 9) (d 7) (N10 11) (N10 12) (N10 13) (N10 14) (N10 15) (N10 16) (N10 17) (N10 18) (N10 19) (N10 20) (N10 21) (N10 22) (N10 23) (N10 24) (N10 25) (N10 26) (N10 27) (N10 28), arI X (d 1) 122 (wspF y 6 (wAll u (u 0).toNat) (bu - wSum u (u 0).toNat)), arI X (d 5) 122 w]) A9 s9.heap H locs := hw
          refine W.eq (g2 := F0 m9 40 ls []) rfl ?_
          have hw : lo_Wd X ([oX8 (d 0) (N10 0) (d 1) (d 2) (N10 3) (d 3) (N10 5) (d 4) (d 5) (d 6) (N10 9) (d 7) (N10 11) (N10 12) (N10 13) (N10 14) (N10 15) (N10 16) (N10 17) (N10 18) (N10 19) (N10 20) (N10 21) (N10 22) (N10 23) (N10 24) (N10 25) (N10 26) (N10 27) (N10 28), arI X (d 1) 122 (wbN bu y u), arI X (d 5) 122 w]) A9 s9.heap H locs := hw
          refine lo_iinc (lv' := [(4, .int (iI (mo + 1))), (0, .ref (d 0)), (1, .int (iI bu)), (2, .int (iI y)), (3, .int (iI (wFld w 6 (w 0).toNat)))]) E dX8_tryBudget_40 hl (k := 4) rfl (by decide) rfl (fun ls hl => ?_)
          refine lv_goto (tgt := 19) Ex Eb dX8_tryBudget_43 (by decide) ?_
          exact ih19 N10 (wbN bu y u) (mo + 1) (fu - 1) (by omega) ((iv19_0.tr q27_0).tr q37_0) (⟨(wbN_keep iv19_1.1 iv19_2).1, (wbN_keep iv19_1.1 iv19_2).2.1.trans hu0⟩) ((wbN_keep iv19_1.1 iv19_2).2.2) (by rw [← iv19_3]; exact (wbF_s hfu (by omega) (by omega)).symm) _ _ _ hw (lv_sub hl [1, 2, 3, 4, 0] rfl)
  exact lp19 _ M w 0 120 (Nat.lt_succ_self _) (sameW.rf) (⟨hWI, rfl⟩) (MB_120 hWI) (rfl) _ _ _ hw (lv_sub hl [2, 3, 4, 1, 0] rfl)
set_option maxHeartbeats 4000000 in
set_option maxRecDepth 100000 in
theorem kX8_budgetMonths (l : Launch) (X : KX) (d : Nat → Nat) (M w g : Nat → Int) (bu y : Int) (hWI : WI w) (hb9 : i32 bu) (hy : y = 0 ∨ y = 1) : CM l X yX8_budgetMonths wsX8_budgetMonths ({ frames := 8, cells := 0, slots := 0, locals := 201 }) [.ref (d 0), .int (iI bu), .int (iI y)] ([oX8 (d 0) (M 0) (d 1) (d 2) (M 3) (d 3) (M 5) (d 4) (d 5) (d 6) (M 9) (d 7) (M 11) (M 12) (M 13) (M 14) (M 15) (M 16) (M 17) (M 18) (M 19) (M 20) (M 21) (M 22) (M 23) (M 24) (M 25) (M 26) (M 27) (M 28), arI X (d 1) 122 w, arI X (d 5) 122 g]) (fun v9 w9 => ∃ N : Nat → Int, ∃ g9 : Nat → Int, ∃ r : Int, (sameP M N) ∧ ((N 0 = 0 ∧ (1 ≤ bu ∧ bu ≤ 9999999) ∧ r = (wbF bu y 120 w 0).2) ∨ (N 0 = 1 ∧ ¬ (1 ≤ bu ∧ bu ≤ 9999999))) ∧ v9 = some (.int (iI r)) ∧ w9 = [oX8 (d 0) (N 0) (d 1) (d 2) (N 3) (d 3) (N 5) (d 4) (d 5) (d 6) (N 9) (d 7) (N 11) (N 12) (N 13) (N 14) (N 15) (N 16) (N 17) (N 18) (N 19) (N 20) (N 21) (N 22) (N 23) (N 24) (N 25) (N 26) (N 27) (N 28), arI X (d 1) 122 w, arI X (d 5) 122 g9]) 0 0 := by
  refine lo_enter (cc := cX8_budgetMonths) (maxL := 3) (ret := (some .int)) (lv := [(0, .ref (d 0)), (1, .int (iI bu)), (2, .int (iI y))]) (by decide) rfl rfl (Nat.le_of_ble_eq_true rfl) ?_
  intro p9 e9 s9 m9 bl9 me9 c9 A9 ls hAe E hRt hLk hK hl hw
  have Ex := E.1
  have Eb := E.2.1
  have huRX8 : ∀ w ∈ u_ws RX8 TX8 29, w ∈ wsX8_budgetMonths := by decide +kernel
  have hf56 : (Cond.fieldLink RX8 56 "LoanScheduleModel" "thrown" "I").before _ s9 = true := E.2.2.2.2 _ (List.mem_of_getElem? (i := 1) rfl)
  have hc154 : (Cond.constant RX8 154 (9999999)).before _ s9 = true := E.2.2.2.2 _ (List.mem_of_getElem? (i := 2) rfl)
  obtain ⟨⟨hn0, hn1⟩, ⟨hb0, hb1⟩, hL⟩ := id hWI
  have hbr := wbF_r bu y 120 w 0 (by omega)
  refine lv_aload_n Ex Eb dX8_budgetMonths_0 rfl (lv_at hl 0 rfl) ?_
  refine lv_iconst (v := iI 0) Ex Eb dX8_budgetMonths_1 rfl ?_
  refine lo_put E hK hw huRX8 tyX8 tyX8_ok nmX8 0 hf56 rfl 0 rfl rfl (by decide) rfl rfl rfl rfl (Nat.le_of_ble_eq_true rfl) (ws' := [oX8 (d 0) 0 (d 1) (d 2) (M 3) (d 3) (M 5) (d 4) (d 5) (d 6) (M 9) (d 7) (M 11) (M 12) (M 13) (M 14) (M 15) (M 16) (M 17) (M 18) (M 19) (M 20) (M 21) (M 22) (M 23) (M 24) (M 25) (M 26) (M 27) (M 28), arI X (d 1) 122 w, arI X (d 5) 122 g]) rfl dX8_budgetMonths_2 (fun H locs hw => ?_)
  refine lv_aload_n Ex Eb dX8_budgetMonths_5 rfl (lv_at hl 0 rfl) ?_
  refine lv_iload_n Ex Eb dX8_budgetMonths_6 rfl (lv_at hl 1 rfl) ?_
  refine lv_iconst (v := iI 1) Ex Eb dX8_budgetMonths_7 rfl ?_
  refine lo_ldc (z := 9999999) E hc154 dX8_budgetMonths_8 rfl ?_
  refine lv_iconst (v := iI 1) Ex Eb dX8_budgetMonths_10 rfl ?_
  refine lo_callV (q0 := 0) (rest := []) E hK hw (kX8_outside l X d (uI M 0 0) bu 1 9999999 1 (by omega) (by omega) (by omega)) (cwV 4 E.2.2.2.2 gX8_budgetMonths_X8_outside rfl rfl rfl (by decide +kernel) ⟨Nat.le_of_ble_eq_true rfl, Nat.le_of_ble_eq_true rfl⟩) rfl rfl [0] rfl (by decide) hl.1 rfl rfl (Nat.le_of_ble_eq_true rfl) dX8_budgetMonths_11 ⟨Nat.le_of_ble_eq_true rfl, Nat.le_of_ble_eq_true rfl⟩ (fun v w1 H locs hq hw => ?_)
  obtain ⟨z1, t2, q11_0, rfl, rfl⟩ := hq
  change (z1 = 0 ∧ t2 = 0 ∧ 1 ≤ bu ∧ bu ≤ 9999999) ∨ (z1 = 1 ∧ t2 = 1 ∧ ¬ (1 ≤ bu ∧ bu ≤ 9999999)) at q11_0
  have hw : lo_Wd X ([oX8 (d 0) t2 (d 1) (d 2) (M 3) (d 3) (M 5) (d 4) (d 5) (d 6) (M 9) (d 7) (M 11) (M 12) (M 13) (M 14) (M 15) (M 16) (M 17) (M 18) (M 19) (M 20) (M 21) (M 22) (M 23) (M 24) (M 25) (M 26) (M 27) (M 28), arI X (d 1) 122 w, arI X (d 5) 122 g]) A9 s9.heap H locs := hw
  refine W.eq (g2 := F0 m9 14 ls [.int (iI z1)]) rfl ?_
  refine lo_if_eq (tgt := 21) E dX8_budgetMonths_14 (by decide) (by omega) (fun c3 => ?_) (fun c3 => ?_)
  · skip
    refine lv_aload_n Ex Eb dX8_budgetMonths_21 rfl (lv_at hl 0 rfl) ?_
    refine lv_iload_n Ex Eb dX8_budgetMonths_22 rfl (lv_at hl 1 rfl) ?_
    refine lv_iload_n Ex Eb dX8_budgetMonths_23 rfl (lv_at hl 2 rfl) ?_
    refine lo_callV (q0 := 0) (rest := []) E hK hw (kX8_tryBudget l X d (uI M 0 t2) w g bu y (hWI) (by omega) (hy)) (cwV 2 E.2.2.2.2 gX8_budgetMonths_X8_tryBudget rfl rfl rfl (by decide +kernel) ⟨Nat.le_of_ble_eq_true rfl, Nat.le_of_ble_eq_true rfl⟩) rfl rfl [0, 1, 2] rfl (by decide) hl.1 rfl rfl (Nat.le_of_ble_eq_true rfl) dX8_budgetMonths_24 ⟨Nat.le_of_ble_eq_true rfl, Nat.le_of_ble_eq_true rfl⟩ (fun v w1 H locs hq hw => ?_)
    obtain ⟨N4, q24_0, q24_1, q24_2, rfl, rfl⟩ := hq
    change N4 0 = t2 at q24_1
    have hw : lo_Wd X ([oX8 (d 0) (N4 0) (d 1) (d 2) (N4 3) (d 3) (N4 5) (d 4) (d 5) (d 6) (N4 9) (d 7) (N4 11) (N4 12) (N4 13) (N4 14) (N4 15) (N4 16) (N4 17) (N4 18) (N4 19) (N4 20) (N4 21) (N4 22) (N4 23) (N4 24) (N4 25) (N4 26) (N4 27) (N4 28), arI X (d 1) 122 w, arI X (d 5) 122 w]) A9 s9.heap H locs := hw
    refine W.eq (g2 := F0 m9 27 ls [.int (iI ((wbF bu y 120 w 0).2))]) rfl ?_
    exact lo_iret E hRt hLk hK hAe hw dX8_budgetMonths_27 rfl ⟨N4, w, (wbF bu y 120 w 0).2, (by first | exact sameP_t | exact sameP_t.tr q24_0 | exact sameP_t.tr q22_0), (by first | omega | (have h0 := q24_1.trans uI_s; omega) | (have h0 := q22_1.trans uI_s; omega) | (simp only [uI_s, and_true]; omega)), rfl, rfl⟩
  · skip
    refine lv_iconst (v := iI 0) Ex Eb dX8_budgetMonths_17 rfl ?_
    refine lv_goto (tgt := 27) Ex Eb dX8_budgetMonths_18 (by decide) ?_
    exact lo_iret E hRt hLk hK hAe hw dX8_budgetMonths_27 rfl ⟨uI M 0 t2, g, 0, (by first | exact sameP_t | exact sameP_t.tr q24_0 | exact sameP_t.tr q22_0), (by first | omega | (have h0 := q24_1.trans uI_s; omega) | (have h0 := q22_1.trans uI_s; omega) | (simp only [uI_s, and_true]; omega)), rfl, rfl⟩
set_option maxHeartbeats 4000000 in
set_option maxRecDepth 100000 in
theorem kX8_budgetInterest (l : Launch) (X : KX) (d : Nat → Nat) (M w g : Nat → Int) (bu y : Int) (hWI : WI w) (hb9 : i32 bu) (hy : y = 0 ∨ y = 1) : CM l X yX8_budgetInterest wsX8_budgetInterest ({ frames := 8, cells := 0, slots := 0, locals := 201 }) [.ref (d 0), .int (iI bu), .int (iI y)] ([oX8 (d 0) (M 0) (d 1) (d 2) (M 3) (d 3) (M 5) (d 4) (d 5) (d 6) (M 9) (d 7) (M 11) (M 12) (M 13) (M 14) (M 15) (M 16) (M 17) (M 18) (M 19) (M 20) (M 21) (M 22) (M 23) (M 24) (M 25) (M 26) (M 27) (M 28), arI X (d 1) 122 w, arI X (d 5) 122 g]) (fun v9 w9 => ∃ N : Nat → Int, ∃ g9 : Nat → Int, ∃ r : Int, (sameP M N) ∧ ((N 0 = 0 ∧ (1 ≤ bu ∧ bu ≤ 9999999) ∧ (((wbF bu y 120 w 0).2 = -1 ∧ r = -1) ∨ ((wbF bu y 120 w 0).2 ≠ -1 ∧ r = wFld (wbF bu y 120 w 0).1 6 (w 0).toNat - wFld w 6 (w 0).toNat))) ∨ (N 0 = 1 ∧ ¬ (1 ≤ bu ∧ bu ≤ 9999999))) ∧ v9 = some (.int (iI r)) ∧ w9 = [oX8 (d 0) (N 0) (d 1) (d 2) (N 3) (d 3) (N 5) (d 4) (d 5) (d 6) (N 9) (d 7) (N 11) (N 12) (N 13) (N 14) (N 15) (N 16) (N 17) (N 18) (N 19) (N 20) (N 21) (N 22) (N 23) (N 24) (N 25) (N 26) (N 27) (N 28), arI X (d 1) 122 w, arI X (d 5) 122 g9]) 0 0 := by
  refine lo_enter (cc := cX8_budgetInterest) (maxL := 3) (ret := (some .int)) (lv := [(0, .ref (d 0)), (1, .int (iI bu)), (2, .int (iI y))]) (by decide) rfl rfl (Nat.le_of_ble_eq_true rfl) ?_
  intro p9 e9 s9 m9 bl9 me9 c9 A9 ls hAe E hRt hLk hK hl hw
  have Ex := E.1
  have Eb := E.2.1
  have huRX8 : ∀ w ∈ u_ws RX8 TX8 29, w ∈ wsX8_budgetInterest := by decide +kernel
  have hf56 : (Cond.fieldLink RX8 56 "LoanScheduleModel" "thrown" "I").before _ s9 = true := E.2.2.2.2 _ (List.mem_of_getElem? (i := 1) rfl)
  have hc154 : (Cond.constant RX8 154 (9999999)).before _ s9 = true := E.2.2.2.2 _ (List.mem_of_getElem? (i := 2) rfl)
  have hf347 : (Cond.fieldLink RX8 347 "LoanScheduleModel" "budgetCost" "I").before _ s9 = true := E.2.2.2.2 _ (List.mem_of_getElem? (i := 3) rfl)
  obtain ⟨⟨hn0, hn1⟩, ⟨hb0, hb1⟩, hL⟩ := id hWI
  have hbr := wbF_r bu y 120 w 0 (by omega)
  refine lv_aload_n Ex Eb dX8_budgetInterest_0 rfl (lv_at hl 0 rfl) ?_
  refine lv_iconst (v := iI 0) Ex Eb dX8_budgetInterest_1 rfl ?_
  refine lo_put E hK hw huRX8 tyX8 tyX8_ok nmX8 0 hf56 rfl 0 rfl rfl (by decide) rfl rfl rfl rfl (Nat.le_of_ble_eq_true rfl) (ws' := [oX8 (d 0) 0 (d 1) (d 2) (M 3) (d 3) (M 5) (d 4) (d 5) (d 6) (M 9) (d 7) (M 11) (M 12) (M 13) (M 14) (M 15) (M 16) (M 17) (M 18) (M 19) (M 20) (M 21) (M 22) (M 23) (M 24) (M 25) (M 26) (M 27) (M 28), arI X (d 1) 122 w, arI X (d 5) 122 g]) rfl dX8_budgetInterest_2 (fun H locs hw => ?_)
  refine lv_aload_n Ex Eb dX8_budgetInterest_5 rfl (lv_at hl 0 rfl) ?_
  refine lv_iload_n Ex Eb dX8_budgetInterest_6 rfl (lv_at hl 1 rfl) ?_
  refine lv_iconst (v := iI 1) Ex Eb dX8_budgetInterest_7 rfl ?_
  refine lo_ldc (z := 9999999) E hc154 dX8_budgetInterest_8 rfl ?_
  refine lv_iconst (v := iI 1) Ex Eb dX8_budgetInterest_10 rfl ?_
  refine lo_callV (q0 := 0) (rest := []) E hK hw (kX8_outside l X d (uI M 0 0) bu 1 9999999 1 (by omega) (by omega) (by omega)) (cwV 4 E.2.2.2.2 gX8_budgetInterest_X8_outside rfl rfl rfl (by decide +kernel) ⟨Nat.le_of_ble_eq_true rfl, Nat.le_of_ble_eq_true rfl⟩) rfl rfl [0] rfl (by decide) hl.1 rfl rfl (Nat.le_of_ble_eq_true rfl) dX8_budgetInterest_11 ⟨Nat.le_of_ble_eq_true rfl, Nat.le_of_ble_eq_true rfl⟩ (fun v w1 H locs hq hw => ?_)
  obtain ⟨z1, t2, q11_0, rfl, rfl⟩ := hq
  change (z1 = 0 ∧ t2 = 0 ∧ 1 ≤ bu ∧ bu ≤ 9999999) ∨ (z1 = 1 ∧ t2 = 1 ∧ ¬ (1 ≤ bu ∧ bu ≤ 9999999)) at q11_0
  have hw : lo_Wd X ([oX8 (d 0) t2 (d 1) (d 2) (M 3) (d 3) (M 5) (d 4) (d 5) (d 6) (M 9) (d 7) (M 11) (M 12) (M 13) (M 14) (M 15) (M 16) (M 17) (M 18) (M 19) (M 20) (M 21) (M 22) (M 23) (M 24) (M 25) (M 26) (M 27) (M 28), arI X (d 1) 122 w, arI X (d 5) 122 g]) A9 s9.heap H locs := hw
  refine W.eq (g2 := F0 m9 14 ls [.int (iI z1)]) rfl ?_
  refine lo_if_eq (tgt := 19) E dX8_budgetInterest_14 (by decide) (by omega) (fun c3 => ?_) (fun c3 => ?_)
  · skip
    refine lv_aload_n Ex Eb dX8_budgetInterest_19 rfl (lv_at hl 0 rfl) ?_
    refine lv_iload_n Ex Eb dX8_budgetInterest_20 rfl (lv_at hl 1 rfl) ?_
    refine lv_iload_n Ex Eb dX8_budgetInterest_21 rfl (lv_at hl 2 rfl) ?_
    refine lo_callV (q0 := 0) (rest := []) E hK hw (kX8_tryBudget l X d (uI M 0 t2) w g bu y (hWI) (by omega) (hy)) (cwV 2 E.2.2.2.2 gX8_budgetInterest_X8_tryBudget rfl rfl rfl (by decide +kernel) ⟨Nat.le_of_ble_eq_true rfl, Nat.le_of_ble_eq_true rfl⟩) rfl rfl [0, 1, 2] rfl (by decide) hl.1 rfl rfl (Nat.le_of_ble_eq_true rfl) dX8_budgetInterest_22 ⟨Nat.le_of_ble_eq_true rfl, Nat.le_of_ble_eq_true rfl⟩ (fun v w1 H locs hq hw => ?_)
    obtain ⟨N4, q22_0, q22_1, q22_2, rfl, rfl⟩ := hq
    change N4 0 = t2 at q22_1
    have hw : lo_Wd X ([oX8 (d 0) (N4 0) (d 1) (d 2) (N4 3) (d 3) (N4 5) (d 4) (d 5) (d 6) (N4 9) (d 7) (N4 11) (N4 12) (N4 13) (N4 14) (N4 15) (N4 16) (N4 17) (N4 18) (N4 19) (N4 20) (N4 21) (N4 22) (N4 23) (N4 24) (N4 25) (N4 26) (N4 27) (N4 28), arI X (d 1) 122 w, arI X (d 5) 122 w]) A9 s9.heap H locs := hw
    refine W.eq (g2 := F0 m9 25 ls [.int (iI ((wbF bu y 120 w 0).2))]) rfl ?_
    refine lv_iconst (v := iI (-1)) Ex Eb dX8_budgetInterest_25 rfl ?_
    refine lo_icmp_ne (tgt := 33) E dX8_budgetInterest_26 (by decide) (by omega) (by omega) (fun c5 => ?_) (fun c5 => ?_)
    · skip
      refine lv_aload_n Ex Eb dX8_budgetInterest_33 rfl (lv_at hl 0 rfl) ?_
      refine lo_get E hK hw huRX8 28 hf347 rfl 0 rfl rfl (by decide) (v := .int (iI (N4 28))) rfl dX8_budgetInterest_34 ?_
      exact lo_iret E hRt hLk hK hAe hw dX8_budgetInterest_37 rfl ⟨N4, w, N4 28, (by first | exact sameP_t | exact sameP_t.tr q24_0 | exact sameP_t.tr q22_0), (by first | omega | (have h0 := q24_1.trans uI_s; omega) | (have h0 := q22_1.trans uI_s; omega) | (simp only [uI_s, and_true]; omega)), rfl, rfl⟩
    · skip
      refine lv_iconst (v := iI (-1)) Ex Eb dX8_budgetInterest_29 rfl ?_
      refine lv_goto (tgt := 37) Ex Eb dX8_budgetInterest_30 (by decide) ?_
      exact lo_iret E hRt hLk hK hAe hw dX8_budgetInterest_37 rfl ⟨N4, w, -1, (by first | exact sameP_t | exact sameP_t.tr q24_0 | exact sameP_t.tr q22_0), (by first | omega | (have h0 := q24_1.trans uI_s; omega) | (have h0 := q22_1.trans uI_s; omega) | (simp only [uI_s, and_true]; omega)), rfl, rfl⟩
  · skip
    refine lv_iconst (v := iI 0) Ex Eb dX8_budgetInterest_17 rfl ?_
    exact lo_iret E hRt hLk hK hAe hw dX8_budgetInterest_18 rfl ⟨uI M 0 t2, g, 0, (by first | exact sameP_t | exact sameP_t.tr q24_0 | exact sameP_t.tr q22_0), (by first | omega | (have h0 := q24_1.trans uI_s; omega) | (have h0 := q22_1.trans uI_s; omega) | (simp only [uI_s, and_true]; omega)), rfl, rfl⟩
