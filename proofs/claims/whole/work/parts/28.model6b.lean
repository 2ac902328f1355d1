set_option maxHeartbeats 4000000 in
set_option maxRecDepth 100000 in
theorem kX8_totalInterestAhead (l : Launch) (X : KX) (d : Nat → Nat) (M w : Nat → Int) (hWI : WI w) : CM l X yX8_totalInterestAhead wsX8_totalInterestAhead ({ frames := 4, cells := 0, slots := 0, locals := 96 }) [.ref (d 0)] ([oX8 (d 0) (M 0) (d 1) (d 2) (M 3) (d 3) (M 5) (d 4) (d 5) (d 6) (M 9) (d 7) (M 11) (M 12) (M 13) (M 14) (M 15) (M 16) (M 17) (M 18) (M 19) (M 20) (M 21) (M 22) (M 23) (M 24) (M 25) (M 26) (M 27) (M 28), arI X (d 1) 122 w]) (fun v9 w9 => ∃ N : Nat → Int, (sameP M N) ∧ (N 0 = 0) ∧ v9 = some (.int (iI (wCost w (w 0).toNat))) ∧ w9 = [oX8 (d 0) (N 0) (d 1) (d 2) (N 3) (d 3) (N 5) (d 4) (d 5) (d 6) (N 9) (d 7) (N 11) (N 12) (N 13) (N 14) (N 15) (N 16) (N 17) (N 18) (N 19) (N 20) (N 21) (N 22) (N 23) (N 24) (N 25) (N 26) (N 27) (N 28), arI X (d 1) 122 w]) 0 0 := by
  refine lo_enter (cc := cX8_totalInterestAhead) (maxL := 3) (ret := (some .int)) (lv := [(0, .ref (d 0))]) (by decide) rfl rfl (Nat.le_of_ble_eq_true rfl) ?_
  intro p9 e9 s9 m9 bl9 me9 c9 A9 ls hAe E hRt hLk hK hl hw
  have Ex := E.1
  have Eb := E.2.1
  have huRX8 : ∀ w ∈ u_ws RX8 TX8 29, w ∈ wsX8_totalInterestAhead := by decide +kernel
  have hf56 : (Cond.fieldLink RX8 56 "LoanScheduleModel" "thrown" "I").before _ s9 = true := E.2.2.2.2 _ (List.mem_of_getElem? (i := 1) rfl)
  have hf9 : (Cond.fieldLink RX8 9 "LoanScheduleModel" "w" "[I").before _ s9 = true := E.2.2.2.2 _ (List.mem_of_getElem? (i := 2) rfl)
  obtain ⟨⟨hn0, hn1⟩, ⟨hb0, hb1⟩, hL⟩ := id hWI
  refine lv_aload_n Ex Eb dX8_totalInterestAhead_0 rfl (lv_at hl 0 rfl) ?_
  refine lv_iconst (v := iI 0) Ex Eb dX8_totalInterestAhead_1 rfl ?_
  refine lo_put E hK hw huRX8 tyX8 tyX8_ok nmX8 0 hf56 rfl 0 rfl rfl (by decide) rfl rfl rfl rfl (Nat.le_of_ble_eq_true rfl) (ws' := [oX8 (d 0) 0 (d 1) (d 2) (M 3) (d 3) (M 5) (d 4) (d 5) (d 6) (M 9) (d 7) (M 11) (M 12) (M 13) (M 14) (M 15) (M 16) (M 17) (M 18) (M 19) (M 20) (M 21) (M 22) (M 23) (M 24) (M 25) (M 26) (M 27) (M 28), arI X (d 1) 122 w]) rfl dX8_totalInterestAhead_2 (fun H locs hw => ?_)
  refine lv_iconst (v := iI 0) Ex Eb dX8_totalInterestAhead_5 rfl ?_
  refine lv_istore_n (lv' := [(1, .int (iI 0)), (0, .ref (d 0))]) Ex Eb dX8_totalInterestAhead_6 rfl hl (by decide) rfl (fun ls hl => ?_)
  refine lv_iconst (v := iI 0) Ex Eb dX8_totalInterestAhead_7 rfl ?_
  refine lv_istore_n (lv' := [(2, .int (iI 0)), (1, .int (iI 0)), (0, .ref (d 0))]) Ex Eb dX8_totalInterestAhead_8 rfl hl (by decide) rfl (fun ls hl => ?_)
  have lp9 : ∀ (n : Nat) (K : Nat → Int) (sm ix : Int), (w 0 - ix).toNat < n → (sameP M K ∧ K 0 = 0) → (0 ≤ ix ∧ ix ≤ w 0) → (sm = wCost w ix.toNat) → ∀ (H : Heap) (locs : List Loc) (ls : Array Slot), lo_Wd X ([oX8 (d 0) (K 0) (d 1) (d 2) (K 3) (d 3) (K 5) (d 4) (d 5) (d 6) (K 9) (d 7) (K 11) (K 12) (K 13) (K 14) (K 15) (K 16) (K 17) (K 18) (K 19) (K 20) (K 21) (K 22) (K 23) (K 24) (K 25) (K 26) (K 27) (K 28), arI X (d 1) 122 w]) A9 s9.heap H locs → lv_has ls 3 [(0, .ref (d 0)), (1, .int (iI sm)), (2, .int (iI ix))] → W p9 l e9 ({ frames := 4, cells := 0, slots := 0, locals := 96 } : Room) s9 m9 ([.ref (d 0)] : List Value).toArray bl9 me9 c9 H locs 0 0 (MQ bl9 (lo_Qc X ([oX8 (d 0) (M 0) (d 1) (d 2) (M 3) (d 3) (M 5) (d 4) (d 5) (d 6) (M 9) (d 7) (M 11) (M 12) (M 13) (M 14) (M 15) (M 16) (M 17) (M 18) (M 19) (M 20) (M 21) (M 22) (M 23) (M 24) (M 25) (M 26) (M 27) (M 28), arI X (d 1) 122 w]) s9.heap.size (fun v9 w9 => ∃ N : Nat → Int, (sameP M N) ∧ (N 0 = 0) ∧ v9 = some (.int (iI (wCost w (w 0).toNat))) ∧ w9 = [oX8 (d 0) (N 0) (d 1) (d 2) (N 3) (d 3) (N 5) (d 4) (d 5) (d 6) (N 9) (d 7) (N 11) (N 12) (N 13) (N 14) (N 15) (N 16) (N 17) (N 18) (N 19) (N 20) (N 21) (N 22) (N 23) (N 24) (N 25) (N 26) (N 27) (N 28), arI X (d 1) 122 w])) ([.ref (d 0)] : List Value).toArray s9 0 0 A9) (F0 m9 9 ls []) := by
    intro n
    induction n with
    | zero => intro K sm ix hn; exact absurd hn (Nat.not_lt_zero _)
    | succ n ih9 =>
      intro K sm ix hn9 iv9_0 iv9_1 iv9_2 H locs ls hw hl
      refine lv_iload_n Ex Eb dX8_totalInterestAhead_9 rfl (lv_at hl 2 rfl) ?_
      refine lv_aload_n Ex Eb dX8_totalInterestAhead_10 rfl (lv_at hl 0 rfl) ?_
      refine lo_get E hK hw huRX8 1 hf9 rfl 0 rfl rfl (by decide) (v := .ref (d 1)) rfl dX8_totalInterestAhead_11 ?_
      refine lv_iconst (v := iI 0) Ex Eb dX8_totalInterestAhead_14 rfl ?_
      refine lo_iald E hK hw 1 rfl (by omega) dX8_totalInterestAhead_15 ?_
      refine W.eq (g2 := F0 m9 16 ls [.int (iI (w 0)), .int (iI ix)]) rfl ?_
      refine lo_icmp_ge (tgt := 45) E dX8_totalInterestAhead_16 (by decide) (by omega) (by omega) (fun c1 => ?_) (fun c1 => ?_)
      · skip
        refine lv_iload_n Ex Eb dX8_totalInterestAhead_45 rfl (lv_at hl 1 rfl) ?_
        exact lo_iret E hRt hLk hK hAe hw dX8_totalInterestAhead_46 rfl ⟨K, (iv9_0.1), (iv9_0.2), by rw [iv9_2, show ix = w 0 by omega], rfl⟩
      · skip
        have hLi := hL ix (by omega) (by omega)
        have hW1 := WI_1 hWI (i := ix) (by omega) (by omega)
        refine lv_iload_n Ex Eb dX8_totalInterestAhead_19 rfl (lv_at hl 1 rfl) ?_
        refine lv_aload_n Ex Eb dX8_totalInterestAhead_20 rfl (lv_at hl 0 rfl) ?_
        refine lv_iload_n Ex Eb dX8_totalInterestAhead_21 rfl (lv_at hl 2 rfl) ?_
        refine lo_callV (q0 := 0) (rest := [.int (iI sm)]) E hK hw (kX8_isRunning l X d K w ix (by omega) (by omega)) (cwV 1 E.2.2.2.2 gX8_totalInterestAhead_X8_isRunning rfl rfl rfl (by decide +kernel) ⟨Nat.le_of_ble_eq_true rfl, Nat.le_of_ble_eq_true rfl⟩) rfl rfl [0, 1] rfl (by decide) hl.1 rfl rfl (Nat.le_of_ble_eq_true rfl) dX8_totalInterestAhead_22 ⟨Nat.le_of_ble_eq_true rfl, Nat.le_of_ble_eq_true rfl⟩ (fun v w1 H locs hq hw => ?_)
        obtain ⟨r2, q22_0, rfl, rfl⟩ := hq
        have hw : lo_Wd X ([oX8 (d 0) (K 0) (d 1) (d 2) (K 3) (d 3) (K 5) (d 4) (d 5) (d 6) (K 9) (d 7) (K 11) (K 12) (K 13) (K 14) (K 15) (K 16) (K 17) (K 18) (K 19) (K 20) (K 21) (K 22) (K 23) (K 24) (K 25) (K 26) (K 27) (K 28), arI X (d 1) 122 w]) A9 s9.heap H locs := hw
        refine W.eq (g2 := F0 m9 25 ls [.int (iI r2), .int (iI sm)]) rfl ?_
        refine lo_if_eq (tgt := 36) E dX8_totalInterestAhead_25 (by decide) (by omega) (fun c3 => ?_) (fun c3 => ?_)
        · skip
          refine lv_iconst (v := iI 0) Ex Eb dX8_totalInterestAhead_36 rfl ?_
          refine lo_iadd E dX8_totalInterestAhead_37 ?_
          refine lv_istore_n (lv' := [(1, .int (iI (sm + 0))), (0, .ref (d 0)), (2, .int (iI ix))]) Ex Eb dX8_totalInterestAhead_38 rfl hl (by decide) rfl (fun ls hl => ?_)
          refine lo_iinc (lv' := [(2, .int (iI (ix + 1))), (1, .int (iI (sm + 0))), (0, .ref (d 0))]) E dX8_totalInterestAhead_39 hl (k := 2) rfl (by decide) rfl (fun ls hl => ?_)
          refine lv_goto (tgt := 9) Ex Eb dX8_totalInterestAhead_42 (by decide) ?_
          exact ih9 K (sm + 0) (ix + 1) (by omega) (by first | exact iv9_0 | exact ⟨iv9_0.1.tr (sameP_s (ahM_same _ w ix)), (sameW_0 (ahM_same _ w ix)).trans iv9_0.2⟩) (by omega) (by rw [wCost_s (by omega), ← iv9_2]; first | (rw [cost_0 (show WL w ix 1 ≤ 0 by (show wOf w ix 1 ≤ 0); omega)]) | (rw [← (ahM_120 (M := K) hLi).2.2.1])) _ _ _ hw (lv_sub hl [2, 1, 0] rfl)
        · skip
          refine lv_aload_n Ex Eb dX8_totalInterestAhead_28 rfl (lv_at hl 0 rfl) ?_
          refine lv_iload_n Ex Eb dX8_totalInterestAhead_29 rfl (lv_at hl 2 rfl) ?_
          refine lo_callV (q0 := 0) (rest := [.int (iI sm)]) E hK hw (kX8_costAhead l X d K w ix (by omega) (hLi)) (cwV 1 E.2.2.2.2 gX8_totalInterestAhead_X8_costAhead rfl rfl rfl (by decide +kernel) ⟨Nat.le_of_ble_eq_true rfl, Nat.le_of_ble_eq_true rfl⟩) rfl rfl [0, 1] rfl (by decide) hl.1 rfl rfl (Nat.le_of_ble_eq_true rfl) dX8_totalInterestAhead_30 ⟨Nat.le_of_ble_eq_true rfl, Nat.le_of_ble_eq_true rfl⟩ (fun v w1 H locs hq hw => ?_)
          obtain ⟨rfl, rfl⟩ := hq
          have hw : lo_Wd X ([oX8 (d 0) (ahM K w ix 0) (d 1) (d 2) (ahM K w ix 3) (d 3) (ahM K w ix 5) (d 4) (d 5) (d 6) (ahM K w ix 9) (d 7) (ahM K w ix 11) (ahM K w ix 12) (ahM K w ix 13) (ahM K w ix 14) (ahM K w ix 15) (ahM K w ix 16) (ahM K w ix 17) (ahM K w ix 18) (ahM K w ix 19) (ahM K w ix 20) (ahM K w ix 21) (ahM K w ix 22) (ahM K w ix 23) (ahM K w ix 24) (ahM K w ix 25) (ahM K w ix 26) (ahM K w ix 27) (ahM K w ix 28), arI X (d 1) 122 w]) A9 s9.heap H locs := hw
          refine W.eq (g2 := F0 m9 33 ls [.int (iI (ahM K w ix 17)), .int (iI sm)]) rfl ?_
          refine lv_goto (tgt := 37) Ex Eb dX8_totalInterestAhead_33 (by decide) ?_
          refine lo_iadd E dX8_totalInterestAhead_37 ?_
          refine lv_istore_n (lv' := [(1, .int (iI (sm + ahM K w ix 17))), (0, .ref (d 0)), (2, .int (iI ix))]) Ex Eb dX8_totalInterestAhead_38 rfl hl (by decide) rfl (fun ls hl => ?_)
          refine lo_iinc (lv' := [(2, .int (iI (ix + 1))), (1, .int (iI (sm + ahM K w ix 17))), (0, .ref (d 0))]) E dX8_totalInterestAhead_39 hl (k := 2) rfl (by decide) rfl (fun ls hl => ?_)
          refine lv_goto (tgt := 9) Ex Eb dX8_totalInterestAhead_42 (by decide) ?_
          exact ih9 (ahM K w ix) (sm + ahM K w ix 17) (ix + 1) (by omega) (by first | exact iv9_0 | exact ⟨iv9_0.1.tr (sameP_s (ahM_same _ w ix)), (sameW_0 (ahM_same _ w ix)).trans iv9_0.2⟩) (by omega) (by rw [wCost_s (by omega), ← iv9_2]; first | (rw [cost_0 (show WL w ix 1 ≤ 0 by (show wOf w ix 1 ≤ 0); omega)]) | (rw [← (ahM_120 (M := K) hLi).2.2.1])) _ _ _ hw (lv_sub hl [2, 1, 0] rfl)
  exact lp9 _ (uI M 0 0) 0 0 (Nat.lt_succ_self _) (⟨sameP_t, uI_s⟩) (by omega) (rfl) _ _ _ hw (lv_sub hl [2, 1, 0] rfl)
set_option maxHeartbeats 4000000 in
set_option maxRecDepth 100000 in
theorem kX8_reaches (l : Launch) (X : KX) (d : Nat → Nat) (M w : Nat → Int) (i a : Int) (hi : 0 ≤ i ∧ i < 6) (hLI : LI (WL w i)) (hn : 1 ≤ a ∧ a ≤ 120) : CM l X yX8_reaches wsX8_reaches ({ frames := 2, cells := 0, slots := 0, locals := 45 }) [.ref (d 0), .int (iI i), .int (iI a)] ([oX8 (d 0) (M 0) (d 1) (d 2) (M 3) (d 3) (M 5) (d 4) (d 5) (d 6) (M 9) (d 7) (M 11) (M 12) (M 13) (M 14) (M 15) (M 16) (M 17) (M 18) (M 19) (M 20) (M 21) (M 22) (M 23) (M 24) (M 25) (M 26) (M 27) (M 28), arI X (d 1) 122 w]) (fun v9 w9 => ∃ N : Nat → Int, ∃ z : Int, (sameW M N) ∧ (RQ (runL (a - 1).toNat (WL w i)) N z) ∧ v9 = some (.int (iI z)) ∧ w9 = [oX8 (d 0) (N 0) (d 1) (d 2) (N 3) (d 3) (N 5) (d 4) (d 5) (d 6) (N 9) (d 7) (N 11) (N 12) (N 13) (N 14) (N 15) (N 16) (N 17) (N 18) (N 19) (N 20) (N 21) (N 22) (N 23) (N 24) (N 25) (N 26) (N 27) (N 28), arI X (d 1) 122 w]) 0 0 := by
  refine lo_enter (cc := cX8_reaches) (maxL := 6) (ret := (some .boolean)) (lv := [(0, .ref (d 0)), (1, .int (iI i)), (2, .int (iI a))]) (by decide) rfl rfl (Nat.le_of_ble_eq_true rfl) ?_
  intro p9 e9 s9 m9 bl9 me9 c9 A9 ls hAe E hRt hLk hK hl hw
  have Ex := E.1
  have Eb := E.2.1
  have huRX8 : ∀ w ∈ u_ws RX8 TX8 29, w ∈ wsX8_reaches := by decide +kernel
  have hf78 : (Cond.fieldLink RX8 78 "LoanScheduleModel" "walkBalance" "J").before _ s9 = true := E.2.2.2.2 _ (List.mem_of_getElem? (i := 1) rfl)
  obtain ⟨⟨hb0, hb1⟩, ⟨hr0, hr1⟩, ⟨hc0, hc1⟩, ⟨hm0, hm1⟩, ⟨hi0, hi1⟩, ⟨hk0, hk1⟩, hop, hcl⟩ := id hLI
  change 0 ≤ wOf w i 1 at hb0
  change wOf w i 1 ≤ 9999999 at hb1
  change 0 ≤ wOf w i 2 at hr0
  change wOf w i 2 ≤ 3000 at hr1
  change 0 ≤ wOf w i 5 at hc0
  change wOf w i 5 < 120000 at hc1
  change 0 ≤ wOf w i 3 at hm0
  change wOf w i 3 ≤ 120 at hm1
  change 0 ≤ wOf w i 4 at hi0
  change wOf w i 4 ≤ 10249999 at hi1
  change 0 ≤ wOf w i 9 at hk0
  change wOf w i 9 ≤ 6 ∧ wOf w i 0 + wOf w i 6 - wOf w i 7 = wOf w i 1 at hk1
  refine lv_aload_n Ex Eb dX8_reaches_0 rfl (lv_at hl 0 rfl) ?_
  refine lv_iload_n Ex Eb dX8_reaches_1 rfl (lv_at hl 1 rfl) ?_
  refine lo_callV (q0 := 0) (rest := []) E hK hw (kX8_beginWith l X d M w i (by omega) (by omega) (by omega)) (cwV 1 E.2.2.2.2 gX8_reaches_X8_beginWith rfl rfl rfl (by decide +kernel) ⟨Nat.le_of_ble_eq_true rfl, Nat.le_of_ble_eq_true rfl⟩) rfl rfl [0, 1] rfl (by decide) hl.1 rfl rfl (Nat.le_of_ble_eq_true rfl) dX8_reaches_2 ⟨Nat.le_of_ble_eq_true rfl, Nat.le_of_ble_eq_true rfl⟩ (fun v w1 H locs hq hw => ?_)
  obtain ⟨rfl, rfl⟩ := hq
  have hw : lo_Wd X ([oX8 (d 0) (bgM M (wOf w i 1) (wOf w i 5) 0) (d 1) (d 2) (bgM M (wOf w i 1) (wOf w i 5) 3) (d 3) (bgM M (wOf w i 1) (wOf w i 5) 5) (d 4) (d 5) (d 6) (bgM M (wOf w i 1) (wOf w i 5) 9) (d 7) (bgM M (wOf w i 1) (wOf w i 5) 11) (bgM M (wOf w i 1) (wOf w i 5) 12) (bgM M (wOf w i 1) (wOf w i 5) 13) (bgM M (wOf w i 1) (wOf w i 5) 14) (bgM M (wOf w i 1) (wOf w i 5) 15) (bgM M (wOf w i 1) (wOf w i 5) 16) (bgM M (wOf w i 1) (wOf w i 5) 17) (bgM M (wOf w i 1) (wOf w i 5) 18) (bgM M (wOf w i 1) (wOf w i 5) 19) (bgM M (wOf w i 1) (wOf w i 5) 20) (bgM M (wOf w i 1) (wOf w i 5) 21) (bgM M (wOf w i 1) (wOf w i 5) 22) (bgM M (wOf w i 1) (wOf w i 5) 23) (bgM M (wOf w i 1) (wOf w i 5) 24) (bgM M (wOf w i 1) (wOf w i 5) 25) (bgM M (wOf w i 1) (wOf w i 5) 26) (bgM M (wOf w i 1) (wOf w i 5) 27) (bgM M (wOf w i 1) (wOf w i 5) 28), arI X (d 1) 122 w]) A9 s9.heap H locs := hw
  refine W.eq (g2 := F0 m9 5 ls []) rfl ?_
  refine lv_aload_n Ex Eb dX8_reaches_5 rfl (lv_at hl 0 rfl) ?_
  refine lv_iload_n Ex Eb dX8_reaches_6 rfl (lv_at hl 1 rfl) ?_
  refine lv_iconst (v := iI 3) Ex Eb dX8_reaches_7 rfl ?_
  refine lo_callV (q0 := 0) (rest := []) E hK hw (kX8_of l X d (bgM M (wOf w i 1) (wOf w i 5)) w i 3 (by omega) (by omega)) (cwV 2 E.2.2.2.2 gX8_reaches_X8_of rfl rfl rfl (by decide +kernel) ⟨Nat.le_of_ble_eq_true rfl, Nat.le_of_ble_eq_true rfl⟩) rfl rfl [0, 1] rfl (by decide) hl.1 rfl rfl (Nat.le_of_ble_eq_true rfl) dX8_reaches_8 ⟨Nat.le_of_ble_eq_true rfl, Nat.le_of_ble_eq_true rfl⟩ (fun v w1 H locs hq hw => ?_)
  obtain ⟨rfl, rfl⟩ := hq
  have hw : lo_Wd X ([oX8 (d 0) (bgM M (wOf w i 1) (wOf w i 5) 0) (d 1) (d 2) (bgM M (wOf w i 1) (wOf w i 5) 3) (d 3) (bgM M (wOf w i 1) (wOf w i 5) 5) (d 4) (d 5) (d 6) (bgM M (wOf w i 1) (wOf w i 5) 9) (d 7) (bgM M (wOf w i 1) (wOf w i 5) 11) (bgM M (wOf w i 1) (wOf w i 5) 12) (bgM M (wOf w i 1) (wOf w i 5) 13) (bgM M (wOf w i 1) (wOf w i 5) 14) (bgM M (wOf w i 1) (wOf w i 5) 15) (bgM M (wOf w i 1) (wOf w i 5) 16) (bgM M (wOf w i 1) (wOf w i 5) 17) (bgM M (wOf w i 1) (wOf w i 5) 18) (bgM M (wOf w i 1) (wOf w i 5) 19) (bgM M (wOf w i 1) (wOf w i 5) 20) (bgM M (wOf w i 1) (wOf w i 5) 21) (bgM M (wOf w i 1) (wOf w i 5) 22) (bgM M (wOf w i 1) (wOf w i 5) 23) (bgM M (wOf w i 1) (wOf w i 5) 24) (bgM M (wOf w i 1) (wOf w i 5) 25) (bgM M (wOf w i 1) (wOf w i 5) 26) (bgM M (wOf w i 1) (wOf w i 5) 27) (bgM M (wOf w i 1) (wOf w i 5) 28), arI X (d 1) 122 w]) A9 s9.heap H locs := hw
  refine W.eq (g2 := F0 m9 11 ls [.int (iI (wOf w i 3))]) rfl ?_
  refine lv_istore_n (lv' := [(3, .int (iI (wOf w i 3))), (0, .ref (d 0)), (1, .int (iI i)), (2, .int (iI a))]) Ex Eb dX8_reaches_11 rfl hl (by decide) rfl (fun ls hl => ?_)
  refine lv_iconst (v := iI 0) Ex Eb dX8_reaches_12 rfl ?_
  refine lv_istore (lv' := [(4, .int (iI 0)), (3, .int (iI (wOf w i 3))), (0, .ref (d 0)), (1, .int (iI i)), (2, .int (iI a))]) Ex Eb dX8_reaches_13 hl (by decide) rfl (fun ls hl => ?_)
  refine lv_iconst (v := iI 0) Ex Eb dX8_reaches_15 rfl ?_
  refine lv_istore (lv' := [(5, .int (iI 0)), (4, .int (iI 0)), (3, .int (iI (wOf w i 3))), (0, .ref (d 0)), (1, .int (iI i)), (2, .int (iI a))]) Ex Eb dX8_reaches_16 hl (by decide) rfl (fun ls hl => ?_)
  have lp18 : ∀ (n : Nat) (K : Nat → Int) (op ix : Int), (a - ix).toNat < n → (sameW M K) → (0 ≤ ix ∧ ix ≤ a) → (SR (runL ix.toNat (WL w i)) K (wOf w i 2) (wOf w i 4) (wOf w i 3 - ix)) → (ix = 0 ∨ RQ (runL (ix - 1).toNat (WL w i)) K op) → ∀ (H : Heap) (locs : List Loc) (ls : Array Slot), lo_Wd X ([oX8 (d 0) (K 0) (d 1) (d 2) (K 3) (d 3) (K 5) (d 4) (d 5) (d 6) (K 9) (d 7) (K 11) (K 12) (K 13) (K 14) (K 15) (K 16) (K 17) (K 18) (K 19) (K 20) (K 21) (K 22) (K 23) (K 24) (K 25) (K 26) (K 27) (K 28), arI X (d 1) 122 w]) A9 s9.heap H locs → lv_has ls 6 [(0, .ref (d 0)), (1, .int (iI i)), (2, .int (iI a)), (3, .int (iI (wOf w i 3))), (4, .int (iI op)), (5, .int (iI ix))] → W p9 l e9 ({ frames := 2, cells := 0, slots := 0, locals := 45 } : Room) s9 m9 ([.ref (d 0), .int (iI i), .int (iI a)] : List Value).toArray bl9 me9 c9 H locs 0 0 (MQ bl9 (lo_Qc X ([oX8 (d 0) (M 0) (d 1) (d 2) (M 3) (d 3) (M 5) (d 4) (d 5) (d 6) (M 9) (d 7) (M 11) (M 12) (M 13) (M 14) (M 15) (M 16) (M 17) (M 18) (M 19) (M 20) (M 21) (M 22) (M 23) (M 24) (M 25) (M 26) (M 27) (M 28), arI X (d 1) 122 w]) s9.heap.size (fun v9 w9 => ∃ N : Nat → Int, ∃ z : Int, (sameW M N) ∧ (RQ (runL (a - 1).toNat (WL w i)) N z) ∧ v9 = some (.int (iI z)) ∧ w9 = [oX8 (d 0) (N 0) (d 1) (d 2) (N 3) (d 3) (N 5) (d 4) (d 5) (d 6) (N 9) (d 7) (N 11) (N 12) (N 13) (N 14) (N 15) (N 16) (N 17) (N 18) (N 19) (N 20) (N 21) (N 22) (N 23) (N 24) (N 25) (N 26) (N 27) (N 28), arI X (d 1) 122 w])) ([.ref (d 0), .int (iI i), .int (iI a)] : List Value).toArray s9 0 0 A9) (F0 m9 18 ls []) := by
    intro n
    induction n with
    | zero => intro K op ix hn; exact absurd hn (Nat.not_lt_zero _)
    | succ n ih18 =>
      intro K op ix hn18 iv18_0 iv18_1 iv18_2 iv18_3 H locs ls hw hl
      obtain ⟨hs0, hs1, hs2⟩ := id iv18_2
      have hs3 := hs0.1
      have hs4 := hs0.2.2.1
      have hs5 := hs0.2.1
      have hopb : op = 0 ∨ op = 1 ∨ ix = 0 := iv18_3.elim (fun h => Or.inr (Or.inr h)) (fun h => (RQ_b h).elim Or.inl (fun q => Or.inr (Or.inl q)))
      refine lv_iload Ex Eb dX8_reaches_18 (lv_at hl 5 rfl) ?_
      refine lv_iload_n Ex Eb dX8_reaches_20 rfl (lv_at hl 2 rfl) ?_
      refine lo_icmp_ge (tgt := 72) E dX8_reaches_21 (by decide) (by omega) (by omega) (fun c1 => ?_) (fun c1 => ?_)
      · skip
        refine lv_iload Ex Eb dX8_reaches_72 (lv_at hl 4 rfl) ?_
        exact lo_zret E hRt hLk hK hAe hw dX8_reaches_74 (nar_b (by omega)) rfl ⟨K, op, (iv18_0), (by rcases iv18_3 with h9 | h9; omega; rw [show a - 1 = ix - 1 by omega]; exact h9), rfl, rfl⟩
      · skip
        refine lv_aload_n Ex Eb dX8_reaches_24 rfl (lv_at hl 0 rfl) ?_
        refine lo_get E hK hw huRX8 12 hf78 rfl 0 rfl rfl (by decide) (v := .long (iL (K 12))) rfl dX8_reaches_25 ?_
        refine lv_lconst (v := iL 0) Ex Eb dX8_reaches_28 rfl ?_
        refine lo_lcmp E dX8_reaches_29 (by omega) (by omega) (fun zc2 rzc2 dzc2 => ?_)
        refine lo_if_le (tgt := 37) E dX8_reaches_30 (by decide) (by omega) (fun c3 => ?_) (fun c3 => ?_)
        · skip
          refine lv_iconst (v := iI 0) Ex Eb dX8_reaches_37 rfl ?_
          refine lv_istore (lv' := [(4, .int (iI 0)), (0, .ref (d 0)), (1, .int (iI i)), (2, .int (iI a)), (3, .int (iI (wOf w i 3))), (5, .int (iI ix))]) Ex Eb dX8_reaches_38 hl (by decide) rfl (fun ls hl => ?_)
          refine lv_iload Ex Eb dX8_reaches_40 (lv_at hl 0 rfl) ?_
          refine lo_if_eq (tgt := 66) E dX8_reaches_42 (by decide) (by omega) (fun c4 => ?_) (fun c4 => ?_)
          · skip
            refine lo_iinc (lv' := [(5, .int (iI (ix + 1))), (4, .int (iI 0)), (0, .ref (d 0)), (1, .int (iI i)), (2, .int (iI a)), (3, .int (iI (wOf w i 3)))]) E dX8_reaches_66 hl (k := 5) rfl (by decide) rfl (fun ls hl => ?_)
            refine lv_goto (tgt := 18) Ex Eb dX8_reaches_69 (by decide) ?_
            exact ih18 K 0 (ix + 1) (by omega) (by first | exact iv18_0.tr (stM_same _ _ _ _) | exact iv18_0) (by omega) (by rw [show (ix + 1).toNat = ix.toNat + 1 by omega]; first | (exfalso; omega) | (rw [show wOf w i 3 - (ix + 1) = wOf w i 3 - ix - 1 by omega]; exact (SR_y iv18_2 (by omega)).1) | exact (SR_n iv18_2 (by omega)).1) (by rw [show (ix + 1 - 1).toNat = ix.toNat by omega]; first | (exfalso; omega) | exact Or.inr (SR_y iv18_2 (by omega)).2 | exact Or.inr (SR_n (j := 0) iv18_2 (by omega)).2) _ _ _ hw (lv_sub hl [2, 3, 4, 5, 1, 0] rfl)
          · skip
            have hs6 := hs2 (by omega)
            have hs7 := SR_s iv18_2 (by omega)
            refine lv_aload_n Ex Eb dX8_reaches_45 rfl (lv_at hl 1 rfl) ?_
            refine lv_aload_n Ex Eb dX8_reaches_46 rfl (lv_at hl 1 rfl) ?_
            refine lv_iload_n Ex Eb dX8_reaches_47 rfl (lv_at hl 2 rfl) ?_
            refine lv_iconst (v := iI 2) Ex Eb dX8_reaches_48 rfl ?_
            refine lo_callV (q0 := 0) (rest := [.ref (d 0)]) E hK hw (kX8_of l X d K w i 2 (by omega) (by omega)) (cwV 2 E.2.2.2.2 gX8_reaches_X8_of rfl rfl rfl (by decide +kernel) ⟨Nat.le_of_ble_eq_true rfl, Nat.le_of_ble_eq_true rfl⟩) rfl rfl [0, 1] rfl (by decide) hl.1 rfl rfl (Nat.le_of_ble_eq_true rfl) dX8_reaches_49 ⟨Nat.le_of_ble_eq_true rfl, Nat.le_of_ble_eq_true rfl⟩ (fun v w1 H locs hq hw => ?_)
            obtain ⟨rfl, rfl⟩ := hq
            have hw : lo_Wd X ([oX8 (d 0) (K 0) (d 1) (d 2) (K 3) (d 3) (K 5) (d 4) (d 5) (d 6) (K 9) (d 7) (K 11) (K 12) (K 13) (K 14) (K 15) (K 16) (K 17) (K 18) (K 19) (K 20) (K 21) (K 22) (K 23) (K 24) (K 25) (K 26) (K 27) (K 28), arI X (d 1) 122 w]) A9 s9.heap H locs := hw
            refine W.eq (g2 := F0 m9 52 ls [.int (iI (wOf w i 2)), .ref (d 0)]) rfl ?_
            refine lv_aload_n Ex Eb dX8_reaches_52 rfl (lv_at hl 1 rfl) ?_
            refine lv_iload_n Ex Eb dX8_reaches_53 rfl (lv_at hl 2 rfl) ?_
            refine lv_iconst (v := iI 4) Ex Eb dX8_reaches_54 rfl ?_
            refine lo_callV (q0 := 0) (rest := [.int (iI (wOf w i 2)), .ref (d 0)]) E hK hw (kX8_of l X d K w i 4 (by omega) (by omega)) (cwV 2 E.2.2.2.2 gX8_reaches_X8_of rfl rfl rfl (by decide +kernel) ⟨Nat.le_of_ble_eq_true rfl, Nat.le_of_ble_eq_true rfl⟩) rfl rfl [0, 1] rfl (by decide) hl.1 rfl rfl (Nat.le_of_ble_eq_true rfl) dX8_reaches_55 ⟨Nat.le_of_ble_eq_true rfl, Nat.le_of_ble_eq_true rfl⟩ (fun v w1 H locs hq hw => ?_)
            obtain ⟨rfl, rfl⟩ := hq
            have hw : lo_Wd X ([oX8 (d 0) (K 0) (d 1) (d 2) (K 3) (d 3) (K 5) (d 4) (d 5) (d 6) (K 9) (d 7) (K 11) (K 12) (K 13) (K 14) (K 15) (K 16) (K 17) (K 18) (K 19) (K 20) (K 21) (K 22) (K 23) (K 24) (K 25) (K 26) (K 27) (K 28), arI X (d 1) 122 w]) A9 s9.heap H locs := hw
            refine W.eq (g2 := F0 m9 58 ls [.int (iI (wOf w i 4)), .int (iI (wOf w i 2)), .ref (d 0)]) rfl ?_
            refine lo_i2l E dX8_reaches_58 (by omega) ?_
            refine lv_iload_n Ex Eb dX8_reaches_59 rfl (lv_at hl 4 rfl) ?_
            refine lv_iload Ex Eb dX8_reaches_60 (lv_at hl 5 rfl) ?_
            refine lo_isub E dX8_reaches_62 ?_
            refine lo_callV (q0 := 0) (rest := []) E hK hw (kX8_step l X d K (wOf w i 2) (wOf w i 4) ((wOf w i 3) - ix) (by omega) (by omega) (by omega) (by omega) (by omega)) (cwV 3 E.2.2.2.2 gX8_reaches_X8_step rfl rfl rfl (by decide +kernel) ⟨Nat.le_of_ble_eq_true rfl, Nat.le_of_ble_eq_true rfl⟩) rfl rfl [0] rfl (by decide) hl.1 rfl rfl (Nat.le_of_ble_eq_true rfl) dX8_reaches_63 ⟨Nat.le_of_ble_eq_true rfl, Nat.le_of_ble_eq_true rfl⟩ (fun v w1 H locs hq hw => ?_)
            obtain ⟨rfl, rfl⟩ := hq
            have hw : lo_Wd X ([oX8 (d 0) (stM K (wOf w i 2) (wOf w i 4) ((wOf w i 3) - ix) 0) (d 1) (d 2) (stM K (wOf w i 2) (wOf w i 4) ((wOf w i 3) - ix) 3) (d 3) (stM K (wOf w i 2) (wOf w i 4) ((wOf w i 3) - ix) 5) (d 4) (d 5) (d 6) (stM K (wOf w i 2) (wOf w i 4) ((wOf w i 3) - ix) 9) (d 7) (stM K (wOf w i 2) (wOf w i 4) ((wOf w i 3) - ix) 11) (stM K (wOf w i 2) (wOf w i 4) ((wOf w i 3) - ix) 12) (stM K (wOf w i 2) (wOf w i 4) ((wOf w i 3) - ix) 13) (stM K (wOf w i 2) (wOf w i 4) ((wOf w i 3) - ix) 14) (stM K (wOf w i 2) (wOf w i 4) ((wOf w i 3) - ix) 15) (stM K (wOf w i 2) (wOf w i 4) ((wOf w i 3) - ix) 16) (stM K (wOf w i 2) (wOf w i 4) ((wOf w i 3) - ix) 17) (stM K (wOf w i 2) (wOf w i 4) ((wOf w i 3) - ix) 18) (stM K (wOf w i 2) (wOf w i 4) ((wOf w i 3) - ix) 19) (stM K (wOf w i 2) (wOf w i 4) ((wOf w i 3) - ix) 20) (stM K (wOf w i 2) (wOf w i 4) ((wOf w i 3) - ix) 21) (stM K (wOf w i 2) (wOf w i 4) ((wOf w i 3) - ix) 22) (stM K (wOf w i 2) (wOf w i 4) ((wOf w i 3) - ix) 23) (stM K (wOf w i 2) (wOf w i 4) ((wOf w i 3) - ix) 24) (stM K (wOf w i 2) (wOf w i 4) ((wOf w i 3) - ix) 25) (stM K (wOf w i 2) (wOf w i 4) ((wOf w i 3) - ix) 26) (stM K (wOf w i 2) (wOf w i 4) ((wOf w i 3) - ix) 27) (stM K (wOf w i 2) (wOf w i 4) ((wOf w i 3) - ix) 28), arI X (d 1) 122 w]) A9 s9.heap H locs := hw
            refine W.eq (g2 := F0 m9 66 ls []) rfl ?_
            refine lo_iinc (lv' := [(5, .int (iI (ix + 1))), (4, .int (iI 0)), (0, .ref (d 0)), (1, .int (iI i)), (2, .int (iI a)), (3, .int (iI (wOf w i 3)))]) E dX8_reaches_66 hl (k := 5) rfl (by decide) rfl (fun ls hl => ?_)
            refine lv_goto (tgt := 18) Ex Eb dX8_reaches_69 (by decide) ?_
            exact ih18 (stM K (wOf w i 2) (wOf w i 4) ((wOf w i 3) - ix)) 0 (ix + 1) (by omega) (by first | exact iv18_0.tr (stM_same _ _ _ _) | exact iv18_0) (by omega) (by rw [show (ix + 1).toNat = ix.toNat + 1 by omega]; first | (exfalso; omega) | (rw [show wOf w i 3 - (ix + 1) = wOf w i 3 - ix - 1 by omega]; exact (SR_y iv18_2 (by omega)).1) | exact (SR_n iv18_2 (by omega)).1) (by rw [show (ix + 1 - 1).toNat = ix.toNat by omega]; first | (exfalso; omega) | exact Or.inr (SR_y iv18_2 (by omega)).2 | exact Or.inr (SR_n (j := 0) iv18_2 (by omega)).2) _ _ _ hw (lv_sub hl [2, 3, 4, 5, 1, 0] rfl)
        · skip
          refine lv_iconst (v := iI 1) Ex Eb dX8_reaches_33 rfl ?_
          refine lv_goto (tgt := 38) Ex Eb dX8_reaches_34 (by decide) ?_
          refine lv_istore (lv' := [(4, .int (iI 1)), (0, .ref (d 0)), (1, .int (iI i)), (2, .int (iI a)), (3, .int (iI (wOf w i 3))), (5, .int (iI ix))]) Ex Eb dX8_reaches_38 hl (by decide) rfl (fun ls hl => ?_)
          refine lv_iload Ex Eb dX8_reaches_40 (lv_at hl 0 rfl) ?_
          refine lo_if_eq (tgt := 66) E dX8_reaches_42 (by decide) (by omega) (fun c5 => ?_) (fun c5 => ?_)
          · skip
            refine lo_iinc (lv' := [(5, .int (iI (ix + 1))), (4, .int (iI 1)), (0, .ref (d 0)), (1, .int (iI i)), (2, .int (iI a)), (3, .int (iI (wOf w i 3)))]) E dX8_reaches_66 hl (k := 5) rfl (by decide) rfl (fun ls hl => ?_)
            refine lv_goto (tgt := 18) Ex Eb dX8_reaches_69 (by decide) ?_
            exact ih18 K 1 (ix + 1) (by omega) (by first | exact iv18_0.tr (stM_same _ _ _ _) | exact iv18_0) (by omega) (by rw [show (ix + 1).toNat = ix.toNat + 1 by omega]; first | (exfalso; omega) | (rw [show wOf w i 3 - (ix + 1) = wOf w i 3 - ix - 1 by omega]; exact (SR_y iv18_2 (by omega)).1) | exact (SR_n iv18_2 (by omega)).1) (by rw [show (ix + 1 - 1).toNat = ix.toNat by omega]; first | (exfalso; omega) | exact Or.inr (SR_y iv18_2 (by omega)).2 | exact Or.inr (SR_n (j := 0) iv18_2 (by omega)).2) _ _ _ hw (lv_sub hl [2, 3, 4, 5, 1, 0] rfl)
          · skip
            have hs6 := hs2 (by omega)
            have hs7 := SR_s iv18_2 (by omega)
            refine lv_aload_n Ex Eb dX8_reaches_45 rfl (lv_at hl 1 rfl) ?_
            refine lv_aload_n Ex Eb dX8_reaches_46 rfl (lv_at hl 1 rfl) ?_
            refine lv_iload_n Ex Eb dX8_reaches_47 rfl (lv_at hl 2 rfl) ?_
            refine lv_iconst (v := iI 2) Ex Eb dX8_reaches_48 rfl ?_
            refine lo_callV (q0 := 0) (rest := [.ref (d 0)]) E hK hw (kX8_of l X d K w i 2 (by omega) (by omega)) (cwV 2 E.2.2.2.2 gX8_reaches_X8_of rfl rfl rfl (by decide +kernel) ⟨Nat.le_of_ble_eq_true rfl, Nat.le_of_ble_eq_true rfl⟩) rfl rfl [0, 1] rfl (by decide) hl.1 rfl rfl (Nat.le_of_ble_eq_true rfl) dX8_reaches_49 ⟨Nat.le_of_ble_eq_true rfl, Nat.le_of_ble_eq_true rfl⟩ (fun v w1 H locs hq hw => ?_)
            obtain ⟨rfl, rfl⟩ := hq
            have hw : lo_Wd X ([oX8 (d 0) (K 0) (d 1) (d 2) (K 3) (d 3) (K 5) (d 4) (d 5) (d 6) (K 9) (d 7) (K 11) (K 12) (K 13) (K 14) (K 15) (K 16) (K 17) (K 18) (K 19) (K 20) (K 21) (K 22) (K 23) (K 24) (K 25) (K 26) (K 27) (K 28), arI X (d 1) 122 w]) A9 s9.heap H locs := hw
            refine W.eq (g2 := F0 m9 52 ls [.int (iI (wOf w i 2)), .ref (d 0)]) rfl ?_
            refine lv_aload_n Ex Eb dX8_reaches_52 rfl (lv_at hl 1 rfl) ?_
            refine lv_iload_n Ex Eb dX8_reaches_53 rfl (lv_at hl 2 rfl) ?_
            refine lv_iconst (v := iI 4) Ex Eb dX8_reaches_54 rfl ?_
            refine lo_callV (q0 := 0) (rest := [.int (iI (wOf w i 2)), .ref (d 0)]) E hK hw (kX8_of l X d K w i 4 (by omega) (by omega)) (cwV 2 E.2.2.2.2 gX8_reaches_X8_of rfl rfl rfl (by decide +kernel) ⟨Nat.le_of_ble_eq_true rfl, Nat.le_of_ble_eq_true rfl⟩) rfl rfl [0, 1] rfl (by decide) hl.1 rfl rfl (Nat.le_of_ble_eq_true rfl) dX8_reaches_55 ⟨Nat.le_of_ble_eq_true rfl, Nat.le_of_ble_eq_true rfl⟩ (fun v w1 H locs hq hw => ?_)
            obtain ⟨rfl, rfl⟩ := hq
            have hw : lo_Wd X ([oX8 (d 0) (K 0) (d 1) (d 2) (K 3) (d 3) (K 5) (d 4) (d 5) (d 6) (K 9) (d 7) (K 11) (K 12) (K 13) (K 14) (K 15) (K 16) (K 17) (K 18) (K 19) (K 20) (K 21) (K 22) (K 23) (K 24) (K 25) (K 26) (K 27) (K 28), arI X (d 1) 122 w]) A9 s9.heap H locs := hw
            refine W.eq (g2 := F0 m9 58 ls [.int (iI (wOf w i 4)), .int (iI (wOf w i 2)), .ref (d 0)]) rfl ?_
            refine lo_i2l E dX8_reaches_58 (by omega) ?_
            refine lv_iload_n Ex Eb dX8_reaches_59 rfl (lv_at hl 4 rfl) ?_
            refine lv_iload Ex Eb dX8_reaches_60 (lv_at hl 5 rfl) ?_
            refine lo_isub E dX8_reaches_62 ?_
            refine lo_callV (q0 := 0) (rest := []) E hK hw (kX8_step l X d K (wOf w i 2) (wOf w i 4) ((wOf w i 3) - ix) (by omega) (by omega) (by omega) (by omega) (by omega)) (cwV 3 E.2.2.2.2 gX8_reaches_X8_step rfl rfl rfl (by decide +kernel) ⟨Nat.le_of_ble_eq_true rfl, Nat.le_of_ble_eq_true rfl⟩) rfl rfl [0] rfl (by decide) hl.1 rfl rfl (Nat.le_of_ble_eq_true rfl) dX8_reaches_63 ⟨Nat.le_of_ble_eq_true rfl, Nat.le_of_ble_eq_true rfl⟩ (fun v w1 H locs hq hw => ?_)
            obtain ⟨rfl, rfl⟩ := hq
            have hw : lo_Wd X ([oX8 (d 0) (stM K (wOf w i 2) (wOf w i 4) ((wOf w i 3) - ix) 0) (d 1) (d 2) (stM K (wOf w i 2) (wOf w i 4) ((wOf w i 3) - ix) 3) (d 3) (stM K (wOf w i 2) (wOf w i 4) ((wOf w i 3) - ix) 5) (d 4) (d 5) (d 6) (stM K (wOf w i 2) (wOf w i 4) ((wOf w i 3) - ix) 9) (d 7) (stM K (wOf w i 2) (wOf w i 4) ((wOf w i 3) - ix) 11) (stM K (wOf w i 2) (wOf w i 4) ((wOf w i 3) - ix) 12) (stM K (wOf w i 2) (wOf w i 4) ((wOf w i 3) - ix) 13) (stM K (wOf w i 2) (wOf w i 4) ((wOf w i 3) - ix) 14) (stM K (wOf w i 2) (wOf w i 4) ((wOf w i 3) - ix) 15) (stM K (wOf w i 2) (wOf w i 4) ((wOf w i 3) - ix) 16) (stM K (wOf w i 2) (wOf w i 4) ((wOf w i 3) - ix) 17) (stM K (wOf w i 2) (wOf w i 4) ((wOf w i 3) - ix) 18) (stM K (wOf w i 2) (wOf w i 4) ((wOf w i 3) - ix) 19) (stM K (wOf w i 2) (wOf w i 4) ((wOf w i 3) - ix) 20) (stM K (wOf w i 2) (wOf w i 4) ((wOf w i 3) - ix) 21) (stM K (wOf w i 2) (wOf w i 4) ((wOf w i 3) - ix) 22) (stM K (wOf w i 2) (wOf w i 4) ((wOf w i 3) - ix) 23) (stM K (wOf w i 2) (wOf w i 4) ((wOf w i 3) - ix) 24) (stM K (wOf w i 2) (wOf w i 4) ((wOf w i 3) - ix) 25) (stM K (wOf w i 2) (wOf w i 4) ((wOf w i 3) - ix) 26) (stM K (wOf w i 2) (wOf w i 4) ((wOf w i 3) - ix) 27) (stM K (wOf w i 2) (wOf w i 4) ((wOf w i 3) - ix) 28), arI X (d 1) 122 w]) A9 s9.heap H locs := hw
            refine W.eq (g2 := F0 m9 66 ls []) rfl ?_
            refine lo_iinc (lv' := [(5, .int (iI (ix + 1))), (4, .int (iI 1)), (0, .ref (d 0)), (1, .int (iI i)), (2, .int (iI a)), (3, .int (iI (wOf w i 3)))]) E dX8_reaches_66 hl (k := 5) rfl (by decide) rfl (fun ls hl => ?_)
            refine lv_goto (tgt := 18) Ex Eb dX8_reaches_69 (by decide) ?_
            exact ih18 (stM K (wOf w i 2) (wOf w i 4) ((wOf w i 3) - ix)) 1 (ix + 1) (by omega) (by first | exact iv18_0.tr (stM_same _ _ _ _) | exact iv18_0) (by omega) (by rw [show (ix + 1).toNat = ix.toNat + 1 by omega]; first | (exfalso; omega) | (rw [show wOf w i 3 - (ix + 1) = wOf w i 3 - ix - 1 by omega]; exact (SR_y iv18_2 (by omega)).1) | exact (SR_n iv18_2 (by omega)).1) (by rw [show (ix + 1 - 1).toNat = ix.toNat by omega]; first | (exfalso; omega) | exact Or.inr (SR_y iv18_2 (by omega)).2 | exact Or.inr (SR_n (j := 0) iv18_2 (by omega)).2) _ _ _ hw (lv_sub hl [2, 3, 4, 5, 1, 0] rfl)
  exact lp18 _ (bgM M (wOf w i 1) (wOf w i 5)) 0 0 (Nat.lt_succ_self _) (bgM_same _ _ _) (by omega) (by rw [show wOf w i 3 - 0 = wOf w i 3 by omega]; exact SR_0 hLI) (Or.inl rfl) _ _ _ hw (lv_sub hl [3, 4, 5, 2, 1, 0] rfl)
set_option maxHeartbeats 4000000 in
set_option maxRecDepth 100000 in
theorem kX8_monthsToFreedom (l : Launch) (X : KX) (d : Nat → Nat) (M w : Nat → Int) (hWI : WI w) : CM l X yX8_monthsToFreedom wsX8_monthsToFreedom ({ frames := 3, cells := 0, slots := 0, locals := 74 }) [.ref (d 0)] ([oX8 (d 0) (M 0) (d 1) (d 2) (M 3) (d 3) (M 5) (d 4) (d 5) (d 6) (M 9) (d 7) (M 11) (M 12) (M 13) (M 14) (M 15) (M 16) (M 17) (M 18) (M 19) (M 20) (M 21) (M 22) (M 23) (M 24) (M 25) (M 26) (M 27) (M 28), arI X (d 1) 122 w]) (fun v9 w9 => ∃ N : Nat → Int, (sameP M N) ∧ (N 0 = 0) ∧ v9 = some (.int (iI (wMost w (w 0).toNat))) ∧ w9 = [oX8 (d 0) (N 0) (d 1) (d 2) (N 3) (d 3) (N 5) (d 4) (d 5) (d 6) (N 9) (d 7) (N 11) (N 12) (N 13) (N 14) (N 15) (N 16) (N 17) (N 18) (N 19) (N 20) (N 21) (N 22) (N 23) (N 24) (N 25) (N 26) (N 27) (N 28), arI X (d 1) 122 w]) 0 0 := by
  refine lo_enter (cc := cX8_monthsToFreedom) (maxL := 4) (ret := (some .int)) (lv := [(0, .ref (d 0))]) (by decide) rfl rfl (Nat.le_of_ble_eq_true rfl) ?_
  intro p9 e9 s9 m9 bl9 me9 c9 A9 ls hAe E hRt hLk hK hl hw
  have Ex := E.1
  have Eb := E.2.1
  have huRX8 : ∀ w ∈ u_ws RX8 TX8 29, w ∈ wsX8_monthsToFreedom := by decide +kernel
  have hf56 : (Cond.fieldLink RX8 56 "LoanScheduleModel" "thrown" "I").before _ s9 = true := E.2.2.2.2 _ (List.mem_of_getElem? (i := 1) rfl)
  have hf9 : (Cond.fieldLink RX8 9 "LoanScheduleModel" "w" "[I").before _ s9 = true := E.2.2.2.2 _ (List.mem_of_getElem? (i := 2) rfl)
  have hf85 : (Cond.fieldLink RX8 85 "LoanScheduleModel" "walkMonths" "I").before _ s9 = true := E.2.2.2.2 _ (List.mem_of_getElem? (i := 3) rfl)
  obtain ⟨⟨hn0, hn1⟩, ⟨hb0, hb1⟩, hL⟩ := id hWI
  refine lv_aload_n Ex Eb dX8_monthsToFreedom_0 rfl (lv_at hl 0 rfl) ?_
  refine lv_iconst (v := iI 0) Ex Eb dX8_monthsToFreedom_1 rfl ?_
  refine lo_put E hK hw huRX8 tyX8 tyX8_ok nmX8 0 hf56 rfl 0 rfl rfl (by decide) rfl rfl rfl rfl (Nat.le_of_ble_eq_true rfl) (ws' := [oX8 (d 0) 0 (d 1) (d 2) (M 3) (d 3) (M 5) (d 4) (d 5) (d 6) (M 9) (d 7) (M 11) (M 12) (M 13) (M 14) (M 15) (M 16) (M 17) (M 18) (M 19) (M 20) (M 21) (M 22) (M 23) (M 24) (M 25) (M 26) (M 27) (M 28), arI X (d 1) 122 w]) rfl dX8_monthsToFreedom_2 (fun H locs hw => ?_)
  refine lv_iconst (v := iI 0) Ex Eb dX8_monthsToFreedom_5 rfl ?_
  refine lv_istore_n (lv' := [(1, .int (iI 0)), (0, .ref (d 0))]) Ex Eb dX8_monthsToFreedom_6 rfl hl (by decide) rfl (fun ls hl => ?_)
  refine lv_iconst (v := iI 0) Ex Eb dX8_monthsToFreedom_7 rfl ?_
  refine lv_istore_n (lv' := [(2, .int (iI 0)), (1, .int (iI 0)), (0, .ref (d 0))]) Ex Eb dX8_monthsToFreedom_8 rfl hl (by decide) rfl (fun ls hl => ?_)
  have lp9 : ∀ (n : Nat) (K : Nat → Int) (mo ix : Int), (w 0 - ix).toNat < n → (sameP M K ∧ K 0 = 0) → (0 ≤ ix ∧ ix ≤ w 0) → (mo = wMost w ix.toNat) → (0 ≤ mo ∧ mo ≤ 120) → ∀ (H : Heap) (locs : List Loc) (ls : Array Slot), lo_Wd X ([oX8 (d 0) (K 0) (d 1) (d 2) (K 3) (d 3) (K 5) (d 4) (d 5) (d 6) (K 9) (d 7) (K 11) (K 12) (K 13) (K 14) (K 15) (K 16) (K 17) (K 18) (K 19) (K 20) (K 21) (K 22) (K 23) (K 24) (K 25) (K 26) (K 27) (K 28), arI X (d 1) 122 w]) A9 s9.heap H locs → lv_has ls 4 [(0, .ref (d 0)), (1, .int (iI mo)), (2, .int (iI ix))] → W p9 l e9 ({ frames := 3, cells := 0, slots := 0, locals := 74 } : Room) s9 m9 ([.ref (d 0)] : List Value).toArray bl9 me9 c9 H locs 0 0 (MQ bl9 (lo_Qc X ([oX8 (d 0) (M 0) (d 1) (d 2) (M 3) (d 3) (M 5) (d 4) (d 5) (d 6) (M 9) (d 7) (M 11) (M 12) (M 13) (M 14) (M 15) (M 16) (M 17) (M 18) (M 19) (M 20) (M 21) (M 22) (M 23) (M 24) (M 25) (M 26) (M 27) (M 28), arI X (d 1) 122 w]) s9.heap.size (fun v9 w9 => ∃ N : Nat → Int, (sameP M N) ∧ (N 0 = 0) ∧ v9 = some (.int (iI (wMost w (w 0).toNat))) ∧ w9 = [oX8 (d 0) (N 0) (d 1) (d 2) (N 3) (d 3) (N 5) (d 4) (d 5) (d 6) (N 9) (d 7) (N 11) (N 12) (N 13) (N 14) (N 15) (N 16) (N 17) (N 18) (N 19) (N 20) (N 21) (N 22) (N 23) (N 24) (N 25) (N 26) (N 27) (N 28), arI X (d 1) 122 w])) ([.ref (d 0)] : List Value).toArray s9 0 0 A9) (F0 m9 9 ls []) := by
    intro n
    induction n with
    | zero => intro K mo ix hn; exact absurd hn (Nat.not_lt_zero _)
    | succ n ih9 =>
      intro K mo ix hn9 iv9_0 iv9_1 iv9_2 iv9_3 H locs ls hw hl
      refine lv_iload_n Ex Eb dX8_monthsToFreedom_9 rfl (lv_at hl 2 rfl) ?_
      refine lv_aload_n Ex Eb dX8_monthsToFreedom_10 rfl (lv_at hl 0 rfl) ?_
      refine lo_get E hK hw huRX8 1 hf9 rfl 0 rfl rfl (by decide) (v := .ref (d 1)) rfl dX8_monthsToFreedom_11 ?_
      refine lv_iconst (v := iI 0) Ex Eb dX8_monthsToFreedom_14 rfl ?_
      refine lo_iald E hK hw 1 rfl (by omega) dX8_monthsToFreedom_15 ?_
      refine W.eq (g2 := F0 m9 16 ls [.int (iI (w 0)), .int (iI ix)]) rfl ?_
      refine lo_icmp_ge (tgt := 52) E dX8_monthsToFreedom_16 (by decide) (by omega) (by omega) (fun c1 => ?_) (fun c1 => ?_)
      · skip
        refine lv_iload_n Ex Eb dX8_monthsToFreedom_52 rfl (lv_at hl 1 rfl) ?_
        exact lo_iret E hRt hLk hK hAe hw dX8_monthsToFreedom_53 rfl ⟨K, (iv9_0.1), (iv9_0.2), by rw [iv9_2, show ix = w 0 by omega], rfl⟩
      · skip
        have hLi := hL ix (by omega) (by omega)
        have hW1 := WI_1 hWI (i := ix) (by omega) (by omega)
        have h120 := ahM_120 (M := K) hLi
        have hla := lastL_r 120 (WL w ix) 0 hLi (by omega) (by omega)
        have hcn := cntL_r 120 (WL w ix)
        refine lv_aload_n Ex Eb dX8_monthsToFreedom_19 rfl (lv_at hl 0 rfl) ?_
        refine lv_iload_n Ex Eb dX8_monthsToFreedom_20 rfl (lv_at hl 2 rfl) ?_
        refine lo_callV (q0 := 0) (rest := []) E hK hw (kX8_ahead l X d K w ix (by omega) (hLi)) (cwV 1 E.2.2.2.2 gX8_monthsToFreedom_X8_ahead rfl rfl rfl (by decide +kernel) ⟨Nat.le_of_ble_eq_true rfl, Nat.le_of_ble_eq_true rfl⟩) rfl rfl [0, 1] rfl (by decide) hl.1 rfl rfl (Nat.le_of_ble_eq_true rfl) dX8_monthsToFreedom_21 ⟨Nat.le_of_ble_eq_true rfl, Nat.le_of_ble_eq_true rfl⟩ (fun v w1 H locs hq hw => ?_)
        obtain ⟨q21_0, rfl, rfl⟩ := hq
        have hw : lo_Wd X ([oX8 (d 0) (ahM K w ix 0) (d 1) (d 2) (ahM K w ix 3) (d 3) (ahM K w ix 5) (d 4) (d 5) (d 6) (ahM K w ix 9) (d 7) (ahM K w ix 11) (ahM K w ix 12) (ahM K w ix 13) (ahM K w ix 14) (ahM K w ix 15) (ahM K w ix 16) (ahM K w ix 17) (ahM K w ix 18) (ahM K w ix 19) (ahM K w ix 20) (ahM K w ix 21) (ahM K w ix 22) (ahM K w ix 23) (ahM K w ix 24) (ahM K w ix 25) (ahM K w ix 26) (ahM K w ix 27) (ahM K w ix 28), arI X (d 1) 122 w]) A9 s9.heap H locs := hw
        refine W.eq (g2 := F0 m9 24 ls [.int (iI (ahM K w ix 15))]) rfl ?_
        refine lv_istore_n (lv' := [(3, .int (iI (ahM K w ix 15))), (0, .ref (d 0)), (1, .int (iI mo)), (2, .int (iI ix))]) Ex Eb dX8_monthsToFreedom_24 rfl hl (by decide) rfl (fun ls hl => ?_)
        refine lv_iload_n Ex Eb dX8_monthsToFreedom_25 rfl (lv_at hl 0 rfl) ?_
        refine lo_if_lt (tgt := 44) E dX8_monthsToFreedom_26 (by decide) (by omega) (fun c2 => ?_) (fun c2 => ?_)
        · skip
          refine lv_iload_n Ex Eb dX8_monthsToFreedom_44 rfl (lv_at hl 2 rfl) ?_
          refine lv_istore_n (lv' := [(1, .int (iI mo)), (3, .int (iI (ahM K w ix 15))), (0, .ref (d 0)), (2, .int (iI ix))]) Ex Eb dX8_monthsToFreedom_45 rfl hl (by decide) rfl (fun ls hl => ?_)
          refine lo_iinc (lv' := [(2, .int (iI (ix + 1))), (1, .int (iI mo)), (3, .int (iI (ahM K w ix 15))), (0, .ref (d 0))]) E dX8_monthsToFreedom_46 hl (k := 3) rfl (by decide) rfl (fun ls hl => ?_)
          refine lv_goto (tgt := 9) Ex Eb dX8_monthsToFreedom_49 (by decide) ?_
          exact ih9 (ahM K w ix) mo (ix + 1) (by omega) (by first | exact iv9_0 | exact ⟨iv9_0.1.tr (sameP_s (ahM_same _ w ix)), (sameW_0 (ahM_same _ w ix)).trans iv9_0.2⟩) (by omega) (by rw [wMost_s (by omega), ← iv9_2]; omega) (by omega) _ _ _ hw (lv_sub hl [3, 1, 0] rfl)
        · skip
          refine lv_aload_n Ex Eb dX8_monthsToFreedom_29 rfl (lv_at hl 1 rfl) ?_
          refine lo_get E hK hw huRX8 16 hf85 rfl 0 rfl rfl (by decide) (v := .int (iI (ahM K w ix 16))) rfl dX8_monthsToFreedom_30 ?_
          refine lv_iload_n Ex Eb dX8_monthsToFreedom_33 rfl (lv_at hl 2 rfl) ?_
          refine lo_icmp_le (tgt := 44) E dX8_monthsToFreedom_34 (by decide) (by omega) (by omega) (fun c3 => ?_) (fun c3 => ?_)
          · skip
            refine lv_iload_n Ex Eb dX8_monthsToFreedom_44 rfl (lv_at hl 2 rfl) ?_
            refine lv_istore_n (lv' := [(1, .int (iI mo)), (3, .int (iI (ahM K w ix 15))), (0, .ref (d 0)), (2, .int (iI ix))]) Ex Eb dX8_monthsToFreedom_45 rfl hl (by decide) rfl (fun ls hl => ?_)
            refine lo_iinc (lv' := [(2, .int (iI (ix + 1))), (1, .int (iI mo)), (3, .int (iI (ahM K w ix 15))), (0, .ref (d 0))]) E dX8_monthsToFreedom_46 hl (k := 3) rfl (by decide) rfl (fun ls hl => ?_)
            refine lv_goto (tgt := 9) Ex Eb dX8_monthsToFreedom_49 (by decide) ?_
            exact ih9 (ahM K w ix) mo (ix + 1) (by omega) (by first | exact iv9_0 | exact ⟨iv9_0.1.tr (sameP_s (ahM_same _ w ix)), (sameW_0 (ahM_same _ w ix)).trans iv9_0.2⟩) (by omega) (by rw [wMost_s (by omega), ← iv9_2]; omega) (by omega) _ _ _ hw (lv_sub hl [3, 1, 0] rfl)
          · skip
            refine lv_aload_n Ex Eb dX8_monthsToFreedom_37 rfl (lv_at hl 1 rfl) ?_
            refine lo_get E hK hw huRX8 16 hf85 rfl 0 rfl rfl (by decide) (v := .int (iI (ahM K w ix 16))) rfl dX8_monthsToFreedom_38 ?_
            refine lv_goto (tgt := 45) Ex Eb dX8_monthsToFreedom_41 (by decide) ?_
            refine lv_istore_n (lv' := [(1, .int (iI (ahM K w ix 16))), (3, .int (iI (ahM K w ix 15))), (0, .ref (d 0)), (2, .int (iI ix))]) Ex Eb dX8_monthsToFreedom_45 rfl hl (by decide) rfl (fun ls hl => ?_)
            refine lo_iinc (lv' := [(2, .int (iI (ix + 1))), (1, .int (iI (ahM K w ix 16))), (3, .int (iI (ahM K w ix 15))), (0, .ref (d 0))]) E dX8_monthsToFreedom_46 hl (k := 3) rfl (by decide) rfl (fun ls hl => ?_)
            refine lv_goto (tgt := 9) Ex Eb dX8_monthsToFreedom_49 (by decide) ?_
            exact ih9 (ahM K w ix) (ahM K w ix 16) (ix + 1) (by omega) (by first | exact iv9_0 | exact ⟨iv9_0.1.tr (sameP_s (ahM_same _ w ix)), (sameW_0 (ahM_same _ w ix)).trans iv9_0.2⟩) (by omega) (by rw [wMost_s (by omega), ← iv9_2]; omega) (by omega) _ _ _ hw (lv_sub hl [3, 1, 0] rfl)
  exact lp9 _ (uI M 0 0) 0 0 (Nat.lt_succ_self _) (⟨sameP_t, uI_s⟩) (by omega) (rfl) (by omega) _ _ _ hw (lv_sub hl [2, 1, 0] rfl)
set_option maxHeartbeats 4000000 in
set_option maxRecDepth 100000 in
theorem kX8_violations (l : Launch) (X : KX) (d : Nat → Nat) (M w : Nat → Int) (hWI : WI w) : CM l X yX8_violations wsX8_violations ({ frames := 3, cells := 0, slots := 0, locals := 74 }) [.ref (d 0)] ([oX8 (d 0) (M 0) (d 1) (d 2) (M 3) (d 3) (M 5) (d 4) (d 5) (d 6) (M 9) (d 7) (M 11) (M 12) (M 13) (M 14) (M 15) (M 16) (M 17) (M 18) (M 19) (M 20) (M 21) (M 22) (M 23) (M 24) (M 25) (M 26) (M 27) (M 28), arI X (d 1) 122 w]) (fun v9 w9 => ∃ N : Nat → Int, (sameP M N) ∧ (N 0 = 0) ∧ v9 = some (.int (iI (wBad w (w 0).toNat))) ∧ w9 = [oX8 (d 0) (N 0) (d 1) (d 2) (N 3) (d 3) (N 5) (d 4) (d 5) (d 6) (N 9) (d 7) (N 11) (N 12) (N 13) (N 14) (N 15) (N 16) (N 17) (N 18) (N 19) (N 20) (N 21) (N 22) (N 23) (N 24) (N 25) (N 26) (N 27) (N 28), arI X (d 1) 122 w]) 0 0 := by
  refine lo_enter (cc := cX8_violations) (maxL := 3) (ret := (some .int)) (lv := [(0, .ref (d 0))]) (by decide) rfl rfl (Nat.le_of_ble_eq_true rfl) ?_
  intro p9 e9 s9 m9 bl9 me9 c9 A9 ls hAe E hRt hLk hK hl hw
  have Ex := E.1
  have Eb := E.2.1
  have huRX8 : ∀ w ∈ u_ws RX8 TX8 29, w ∈ wsX8_violations := by decide +kernel
  have hf56 : (Cond.fieldLink RX8 56 "LoanScheduleModel" "thrown" "I").before _ s9 = true := E.2.2.2.2 _ (List.mem_of_getElem? (i := 1) rfl)
  have hf9 : (Cond.fieldLink RX8 9 "LoanScheduleModel" "w" "[I").before _ s9 = true := E.2.2.2.2 _ (List.mem_of_getElem? (i := 2) rfl)
  have hc38 : (Cond.constant RX8 38 (120000)).before _ s9 = true := E.2.2.2.2 _ (List.mem_of_getElem? (i := 3) rfl)
  obtain ⟨⟨hn0, hn1⟩, ⟨hb0, hb1⟩, hL⟩ := id hWI
  refine lv_aload_n Ex Eb dX8_violations_0 rfl (lv_at hl 0 rfl) ?_
  refine lv_iconst (v := iI 0) Ex Eb dX8_violations_1 rfl ?_
  refine lo_put E hK hw huRX8 tyX8 tyX8_ok nmX8 0 hf56 rfl 0 rfl rfl (by decide) rfl rfl rfl rfl (Nat.le_of_ble_eq_true rfl) (ws' := [oX8 (d 0) 0 (d 1) (d 2) (M 3) (d 3) (M 5) (d 4) (d 5) (d 6) (M 9) (d 7) (M 11) (M 12) (M 13) (M 14) (M 15) (M 16) (M 17) (M 18) (M 19) (M 20) (M 21) (M 22) (M 23) (M 24) (M 25) (M 26) (M 27) (M 28), arI X (d 1) 122 w]) rfl dX8_violations_2 (fun H locs hw => ?_)
  refine lv_iconst (v := iI 0) Ex Eb dX8_violations_5 rfl ?_
  refine lv_istore_n (lv' := [(1, .int (iI 0)), (0, .ref (d 0))]) Ex Eb dX8_violations_6 rfl hl (by decide) rfl (fun ls hl => ?_)
  refine lv_iconst (v := iI 0) Ex Eb dX8_violations_7 rfl ?_
  refine lv_istore_n (lv' := [(2, .int (iI 0)), (1, .int (iI 0)), (0, .ref (d 0))]) Ex Eb dX8_violations_8 rfl hl (by decide) rfl (fun ls hl => ?_)
  have lp9 : ∀ (n : Nat) (K : Nat → Int) (fo ix : Int), (w 0 - ix).toNat < n → (sameP M K ∧ K 0 = 0) → (0 ≤ ix ∧ ix ≤ w 0) → (fo = wBad w ix.toNat) → ∀ (H : Heap) (locs : List Loc) (ls : Array Slot), lo_Wd X ([oX8 (d 0) (K 0) (d 1) (d 2) (K 3) (d 3) (K 5) (d 4) (d 5) (d 6) (K 9) (d 7) (K 11) (K 12) (K 13) (K 14) (K 15) (K 16) (K 17) (K 18) (K 19) (K 20) (K 21) (K 22) (K 23) (K 24) (K 25) (K 26) (K 27) (K 28), arI X (d 1) 122 w]) A9 s9.heap H locs → lv_has ls 3 [(0, .ref (d 0)), (1, .int (iI fo)), (2, .int (iI ix))] → W p9 l e9 ({ frames := 3, cells := 0, slots := 0, locals := 74 } : Room) s9 m9 ([.ref (d 0)] : List Value).toArray bl9 me9 c9 H locs 0 0 (MQ bl9 (lo_Qc X ([oX8 (d 0) (M 0) (d 1) (d 2) (M 3) (d 3) (M 5) (d 4) (d 5) (d 6) (M 9) (d 7) (M 11) (M 12) (M 13) (M 14) (M 15) (M 16) (M 17) (M 18) (M 19) (M 20) (M 21) (M 22) (M 23) (M 24) (M 25) (M 26) (M 27) (M 28), arI X (d 1) 122 w]) s9.heap.size (fun v9 w9 => ∃ N : Nat → Int, (sameP M N) ∧ (N 0 = 0) ∧ v9 = some (.int (iI (wBad w (w 0).toNat))) ∧ w9 = [oX8 (d 0) (N 0) (d 1) (d 2) (N 3) (d 3) (N 5) (d 4) (d 5) (d 6) (N 9) (d 7) (N 11) (N 12) (N 13) (N 14) (N 15) (N 16) (N 17) (N 18) (N 19) (N 20) (N 21) (N 22) (N 23) (N 24) (N 25) (N 26) (N 27) (N 28), arI X (d 1) 122 w])) ([.ref (d 0)] : List Value).toArray s9 0 0 A9) (F0 m9 9 ls []) := by
    intro n
    induction n with
    | zero => intro K fo ix hn; exact absurd hn (Nat.not_lt_zero _)
    | succ n ih9 =>
      intro K fo ix hn9 iv9_0 iv9_1 iv9_2 H locs ls hw hl
      refine lv_iload_n Ex Eb dX8_violations_9 rfl (lv_at hl 2 rfl) ?_
      refine lv_aload_n Ex Eb dX8_violations_10 rfl (lv_at hl 0 rfl) ?_
      refine lo_get E hK hw huRX8 1 hf9 rfl 0 rfl rfl (by decide) (v := .ref (d 1)) rfl dX8_violations_11 ?_
      refine lv_iconst (v := iI 0) Ex Eb dX8_violations_14 rfl ?_
      refine lo_iald E hK hw 1 rfl (by omega) dX8_violations_15 ?_
      refine W.eq (g2 := F0 m9 16 ls [.int (iI (w 0)), .int (iI ix)]) rfl ?_
      refine lo_icmp_ge (tgt := 122) E dX8_violations_16 (by decide) (by omega) (by omega) (fun c1 => ?_) (fun c1 => ?_)
      · skip
        refine lv_iload_n Ex Eb dX8_violations_122 rfl (lv_at hl 1 rfl) ?_
        exact lo_iret E hRt hLk hK hAe hw dX8_violations_123 rfl ⟨K, (iv9_0.1), (iv9_0.2), by rw [iv9_2, show ix = w 0 by omega], rfl⟩
      · skip
        have hLi := hL ix (by omega) (by omega)
        have hW1 := WI_1 hWI (i := ix) (by omega) (by omega)
        have h120 := ahM_120 (M := K) hLi
        have hla := lastL_r 120 (WL w ix) 0 hLi (by omega) (by omega)
        obtain ⟨⟨hb0, hb1⟩, ⟨hr0, hr1⟩, ⟨hc0, hc1⟩, ⟨hm0, hm1⟩, ⟨hi0, hi1⟩, ⟨hk0, hk1⟩, hop, hcl⟩ := id hLi
        change 0 ≤ wOf w ix 5 at hc0
        change wOf w ix 5 < 120000 at hc1
        change 0 ≤ wOf w ix 4 at hi0
        change wOf w ix 4 ≤ 10249999 at hi1
        change wOf w ix 9 ≤ 6 ∧ wOf w ix 0 + wOf w ix 6 - wOf w ix 7 = wOf w ix 1 at hk1
        refine lv_iload_n Ex Eb dX8_violations_19 rfl (lv_at hl 1 rfl) ?_
        refine lv_aload_n Ex Eb dX8_violations_20 rfl (lv_at hl 0 rfl) ?_
        refine lv_iload_n Ex Eb dX8_violations_21 rfl (lv_at hl 2 rfl) ?_
        refine lv_iconst (v := iI 0) Ex Eb dX8_violations_22 rfl ?_
        refine lo_callV (q0 := 0) (rest := [.int (iI fo)]) E hK hw (kX8_of l X d K w ix 0 (by omega) (by omega)) (cwV 2 E.2.2.2.2 gX8_violations_X8_of rfl rfl rfl (by decide +kernel) ⟨Nat.le_of_ble_eq_true rfl, Nat.le_of_ble_eq_true rfl⟩) rfl rfl [0, 1] rfl (by decide) hl.1 rfl rfl (Nat.le_of_ble_eq_true rfl) dX8_violations_23 ⟨Nat.le_of_ble_eq_true rfl, Nat.le_of_ble_eq_true rfl⟩ (fun v w1 H locs hq hw => ?_)
        obtain ⟨rfl, rfl⟩ := hq
        have hw : lo_Wd X ([oX8 (d 0) (K 0) (d 1) (d 2) (K 3) (d 3) (K 5) (d 4) (d 5) (d 6) (K 9) (d 7) (K 11) (K 12) (K 13) (K 14) (K 15) (K 16) (K 17) (K 18) (K 19) (K 20) (K 21) (K 22) (K 23) (K 24) (K 25) (K 26) (K 27) (K 28), arI X (d 1) 122 w]) A9 s9.heap H locs := hw
        refine W.eq (g2 := F0 m9 26 ls [.int (iI (wOf w ix 0)), .int (iI fo)]) rfl ?_
        refine lv_aload_n Ex Eb dX8_violations_26 rfl (lv_at hl 0 rfl) ?_
        refine lv_iload_n Ex Eb dX8_violations_27 rfl (lv_at hl 2 rfl) ?_
        refine lv_bipush (v := iI 6) Ex Eb dX8_violations_28 rfl ?_
        refine lo_callV (q0 := 0) (rest := [.int (iI (wOf w ix 0)), .int (iI fo)]) E hK hw (kX8_of l X d K w ix 6 (by omega) (by omega)) (cwV 2 E.2.2.2.2 gX8_violations_X8_of rfl rfl rfl (by decide +kernel) ⟨Nat.le_of_ble_eq_true rfl, Nat.le_of_ble_eq_true rfl⟩) rfl rfl [0, 1] rfl (by decide) hl.1 rfl rfl (Nat.le_of_ble_eq_true rfl) dX8_violations_30 ⟨Nat.le_of_ble_eq_true rfl, Nat.le_of_ble_eq_true rfl⟩ (fun v w1 H locs hq hw => ?_)
        obtain ⟨rfl, rfl⟩ := hq
        have hw : lo_Wd X ([oX8 (d 0) (K 0) (d 1) (d 2) (K 3) (d 3) (K 5) (d 4) (d 5) (d 6) (K 9) (d 7) (K 11) (K 12) (K 13) (K 14) (K 15) (K 16) (K 17) (K 18) (K 19) (K 20) (K 21) (K 22) (K 23) (K 24) (K 25) (K 26) (K 27) (K 28), arI X (d 1) 122 w]) A9 s9.heap H locs := hw
        refine W.eq (g2 := F0 m9 33 ls [.int (iI (wOf w ix 6)), .int (iI (wOf w ix 0)), .int (iI fo)]) rfl ?_
        refine lo_iadd E dX8_violations_33 ?_
        refine lv_aload_n Ex Eb dX8_violations_34 rfl (lv_at hl 0 rfl) ?_
        refine lv_iload_n Ex Eb dX8_violations_35 rfl (lv_at hl 2 rfl) ?_
        refine lv_bipush (v := iI 7) Ex Eb dX8_violations_36 rfl ?_
        refine lo_callV (q0 := 0) (rest := [.int (iI (wOf w ix 0 + wOf w ix 6)), .int (iI fo)]) E hK hw (kX8_of l X d K w ix 7 (by omega) (by omega)) (cwV 2 E.2.2.2.2 gX8_violations_X8_of rfl rfl rfl (by decide +kernel) ⟨Nat.le_of_ble_eq_true rfl, Nat.le_of_ble_eq_true rfl⟩) rfl rfl [0, 1] rfl (by decide) hl.1 rfl rfl (Nat.le_of_ble_eq_true rfl) dX8_violations_38 ⟨Nat.le_of_ble_eq_true rfl, Nat.le_of_ble_eq_true rfl⟩ (fun v w1 H locs hq hw => ?_)
        obtain ⟨rfl, rfl⟩ := hq
        have hw : lo_Wd X ([oX8 (d 0) (K 0) (d 1) (d 2) (K 3) (d 3) (K 5) (d 4) (d 5) (d 6) (K 9) (d 7) (K 11) (K 12) (K 13) (K 14) (K 15) (K 16) (K 17) (K 18) (K 19) (K 20) (K 21) (K 22) (K 23) (K 24) (K 25) (K 26) (K 27) (K 28), arI X (d 1) 122 w]) A9 s9.heap H locs := hw
        refine W.eq (g2 := F0 m9 41 ls [.int (iI (wOf w ix 7)), .int (iI (wOf w ix 0 + wOf w ix 6)), .int (iI fo)]) rfl ?_
        refine lo_isub E dX8_violations_41 ?_
        refine lv_aload_n Ex Eb dX8_violations_42 rfl (lv_at hl 0 rfl) ?_
        refine lv_iload_n Ex Eb dX8_violations_43 rfl (lv_at hl 2 rfl) ?_
        refine lv_iconst (v := iI 1) Ex Eb dX8_violations_44 rfl ?_
        refine lo_callV (q0 := 0) (rest := [.int (iI ((wOf w ix 0 + wOf w ix 6) - wOf w ix 7)), .int (iI fo)]) E hK hw (kX8_of l X d K w ix 1 (by omega) (by omega)) (cwV 2 E.2.2.2.2 gX8_violations_X8_of rfl rfl rfl (by decide +kernel) ⟨Nat.le_of_ble_eq_true rfl, Nat.le_of_ble_eq_true rfl⟩) rfl rfl [0, 1] rfl (by decide) hl.1 rfl rfl (Nat.le_of_ble_eq_true rfl) dX8_violations_45 ⟨Nat.le_of_ble_eq_true rfl, Nat.le_of_ble_eq_true rfl⟩ (fun v w1 H locs hq hw => ?_)
        obtain ⟨rfl, rfl⟩ := hq
        have hw : lo_Wd X ([oX8 (d 0) (K 0) (d 1) (d 2) (K 3) (d 3) (K 5) (d 4) (d 5) (d 6) (K 9) (d 7) (K 11) (K 12) (K 13) (K 14) (K 15) (K 16) (K 17) (K 18) (K 19) (K 20) (K 21) (K 22) (K 23) (K 24) (K 25) (K 26) (K 27) (K 28), arI X (d 1) 122 w]) A9 s9.heap H locs := hw
        refine W.eq (g2 := F0 m9 48 ls [.int (iI (wOf w ix 1)), .int (iI ((wOf w ix 0 + wOf w ix 6) - wOf w ix 7)), .int (iI fo)]) rfl ?_
        refine lo_icmp_ne (tgt := 55) E dX8_violations_48 (by decide) (by omega) (by omega) (fun c2 => ?_) (fun c2 => ?_)
        · skip
          refine lv_iconst (v := iI 1) Ex Eb dX8_violations_55 rfl ?_
          refine lo_iadd E dX8_violations_56 ?_
          refine lv_istore_n (lv' := [(1, .int (iI (fo + 1))), (0, .ref (d 0)), (2, .int (iI ix))]) Ex Eb dX8_violations_57 rfl hl (by decide) rfl (fun ls hl => ?_)
          refine lv_iload_n Ex Eb dX8_violations_58 rfl (lv_at hl 0 rfl) ?_
          refine lv_aload_n Ex Eb dX8_violations_59 rfl (lv_at hl 1 rfl) ?_
          refine lv_iload_n Ex Eb dX8_violations_60 rfl (lv_at hl 2 rfl) ?_
          refine lv_iconst (v := iI 5) Ex Eb dX8_violations_61 rfl ?_
          refine lo_callV (q0 := 0) (rest := [.int (iI (fo + 1))]) E hK hw (kX8_of l X d K w ix 5 (by omega) (by omega)) (cwV 2 E.2.2.2.2 gX8_violations_X8_of rfl rfl rfl (by decide +kernel) ⟨Nat.le_of_ble_eq_true rfl, Nat.le_of_ble_eq_true rfl⟩) rfl rfl [0, 1] rfl (by decide) hl.1 rfl rfl (Nat.le_of_ble_eq_true rfl) dX8_violations_62 ⟨Nat.le_of_ble_eq_true rfl, Nat.le_of_ble_eq_true rfl⟩ (fun v w1 H locs hq hw => ?_)
          obtain ⟨rfl, rfl⟩ := hq
          have hw : lo_Wd X ([oX8 (d 0) (K 0) (d 1) (d 2) (K 3) (d 3) (K 5) (d 4) (d 5) (d 6) (K 9) (d 7) (K 11) (K 12) (K 13) (K 14) (K 15) (K 16) (K 17) (K 18) (K 19) (K 20) (K 21) (K 22) (K 23) (K 24) (K 25) (K 26) (K 27) (K 28), arI X (d 1) 122 w]) A9 s9.heap H locs := hw
          refine W.eq (g2 := F0 m9 65 ls [.int (iI (wOf w ix 5)), .int (iI (fo + 1))]) rfl ?_
          refine lo_if_lt (tgt := 79) E dX8_violations_65 (by decide) (by omega) (fun c3 => ?_) (fun c3 => ?_)
          · skip
            refine lv_iconst (v := iI 1) Ex Eb dX8_violations_79 rfl ?_
            refine lv_goto (tgt := 84) Ex Eb dX8_violations_80 (by decide) ?_
            refine lo_iadd E dX8_violations_84 ?_
            refine lv_istore_n (lv' := [(1, .int (iI ((fo + 1) + 1))), (0, .ref (d 0)), (2, .int (iI ix))]) Ex Eb dX8_violations_85 rfl hl (by decide) rfl (fun ls hl => ?_)
            refine lv_iload_n Ex Eb dX8_violations_86 rfl (lv_at hl 0 rfl) ?_
            refine lv_aload_n Ex Eb dX8_violations_87 rfl (lv_at hl 1 rfl) ?_
            refine lv_iload_n Ex Eb dX8_violations_88 rfl (lv_at hl 2 rfl) ?_
            refine lo_callV (q0 := 0) (rest := [.int (iI ((fo + 1) + 1))]) E hK hw (kX8_isRunning l X d K w ix (by omega) (by omega)) (cwV 1 E.2.2.2.2 gX8_violations_X8_isRunning rfl rfl rfl (by decide +kernel) ⟨Nat.le_of_ble_eq_true rfl, Nat.le_of_ble_eq_true rfl⟩) rfl rfl [0, 1] rfl (by decide) hl.1 rfl rfl (Nat.le_of_ble_eq_true rfl) dX8_violations_89 ⟨Nat.le_of_ble_eq_true rfl, Nat.le_of_ble_eq_true rfl⟩ (fun v w1 H locs hq hw => ?_)
            obtain ⟨r4, q89_0, rfl, rfl⟩ := hq
            have hw : lo_Wd X ([oX8 (d 0) (K 0) (d 1) (d 2) (K 3) (d 3) (K 5) (d 4) (d 5) (d 6) (K 9) (d 7) (K 11) (K 12) (K 13) (K 14) (K 15) (K 16) (K 17) (K 18) (K 19) (K 20) (K 21) (K 22) (K 23) (K 24) (K 25) (K 26) (K 27) (K 28), arI X (d 1) 122 w]) A9 s9.heap H locs := hw
            refine W.eq (g2 := F0 m9 92 ls [.int (iI r4), .int (iI ((fo + 1) + 1))]) rfl ?_
            refine lo_if_eq (tgt := 113) E dX8_violations_92 (by decide) (by omega) (fun c5 => ?_) (fun c5 => ?_)
            · skip
              refine lv_iconst (v := iI 0) Ex Eb dX8_violations_113 rfl ?_
              refine lo_iadd E dX8_violations_114 ?_
              refine lv_istore_n (lv' := [(1, .int (iI (((fo + 1) + 1) + 0))), (0, .ref (d 0)), (2, .int (iI ix))]) Ex Eb dX8_violations_115 rfl hl (by decide) rfl (fun ls hl => ?_)
              refine lo_iinc (lv' := [(2, .int (iI (ix + 1))), (1, .int (iI (((fo + 1) + 1) + 0))), (0, .ref (d 0))]) E dX8_violations_116 hl (k := 2) rfl (by decide) rfl (fun ls hl => ?_)
              refine lv_goto (tgt := 9) Ex Eb dX8_violations_119 (by decide) ?_
              exact ih9 K (((fo + 1) + 1) + 0) (ix + 1) (by omega) (by first | exact iv9_0 | exact ⟨iv9_0.1.tr (sameP_s (ahM_same _ w ix)), (sameW_0 (ahM_same _ w ix)).trans iv9_0.2⟩) (by omega) (by first | (rw [wBad_y (by omega) (by omega), ← iv9_2]; done) | (rw [wBad_y (by omega) (by omega), ← iv9_2]; omega) | (rw [wBad_n (by omega) (by omega), ← iv9_2]; done) | (rw [wBad_n (by omega) (by omega), ← iv9_2]; omega)) _ _ _ hw (lv_sub hl [2, 1, 0] rfl)
            · skip
              refine lv_aload_n Ex Eb dX8_violations_95 rfl (lv_at hl 1 rfl) ?_
              refine lv_iload_n Ex Eb dX8_violations_96 rfl (lv_at hl 2 rfl) ?_
              refine lo_callV (q0 := 0) (rest := [.int (iI ((fo + 1) + 1))]) E hK hw (kX8_ahead l X d K w ix (by omega) (hLi)) (cwV 1 E.2.2.2.2 gX8_violations_X8_ahead rfl rfl rfl (by decide +kernel) ⟨Nat.le_of_ble_eq_true rfl, Nat.le_of_ble_eq_true rfl⟩) rfl rfl [0, 1] rfl (by decide) hl.1 rfl rfl (Nat.le_of_ble_eq_true rfl) dX8_violations_97 ⟨Nat.le_of_ble_eq_true rfl, Nat.le_of_ble_eq_true rfl⟩ (fun v w1 H locs hq hw => ?_)
              obtain ⟨q97_0, rfl, rfl⟩ := hq
              have hw : lo_Wd X ([oX8 (d 0) (ahM K w ix 0) (d 1) (d 2) (ahM K w ix 3) (d 3) (ahM K w ix 5) (d 4) (d 5) (d 6) (ahM K w ix 9) (d 7) (ahM K w ix 11) (ahM K w ix 12) (ahM K w ix 13) (ahM K w ix 14) (ahM K w ix 15) (ahM K w ix 16) (ahM K w ix 17) (ahM K w ix 18) (ahM K w ix 19) (ahM K w ix 20) (ahM K w ix 21) (ahM K w ix 22) (ahM K w ix 23) (ahM K w ix 24) (ahM K w ix 25) (ahM K w ix 26) (ahM K w ix 27) (ahM K w ix 28), arI X (d 1) 122 w]) A9 s9.heap H locs := hw
              refine W.eq (g2 := F0 m9 100 ls [.int (iI (ahM K w ix 15)), .int (iI ((fo + 1) + 1))]) rfl ?_
              refine lv_aload_n Ex Eb dX8_violations_100 rfl (lv_at hl 1 rfl) ?_
              refine lv_iload_n Ex Eb dX8_violations_101 rfl (lv_at hl 2 rfl) ?_
              refine lv_iconst (v := iI 4) Ex Eb dX8_violations_102 rfl ?_
              refine lo_callV (q0 := 0) (rest := [.int (iI (ahM K w ix 15)), .int (iI ((fo + 1) + 1))]) E hK hw (kX8_of l X d (ahM K w ix) w ix 4 (by omega) (by omega)) (cwV 2 E.2.2.2.2 gX8_violations_X8_of rfl rfl rfl (by decide +kernel) ⟨Nat.le_of_ble_eq_true rfl, Nat.le_of_ble_eq_true rfl⟩) rfl rfl [0, 1] rfl (by decide) hl.1 rfl rfl (Nat.le_of_ble_eq_true rfl) dX8_violations_103 ⟨Nat.le_of_ble_eq_true rfl, Nat.le_of_ble_eq_true rfl⟩ (fun v w1 H locs hq hw => ?_)
              obtain ⟨rfl, rfl⟩ := hq
              have hw : lo_Wd X ([oX8 (d 0) (ahM K w ix 0) (d 1) (d 2) (ahM K w ix 3) (d 3) (ahM K w ix 5) (d 4) (d 5) (d 6) (ahM K w ix 9) (d 7) (ahM K w ix 11) (ahM K w ix 12) (ahM K w ix 13) (ahM K w ix 14) (ahM K w ix 15) (ahM K w ix 16) (ahM K w ix 17) (ahM K w ix 18) (ahM K w ix 19) (ahM K w ix 20) (ahM K w ix 21) (ahM K w ix 22) (ahM K w ix 23) (ahM K w ix 24) (ahM K w ix 25) (ahM K w ix 26) (ahM K w ix 27) (ahM K w ix 28), arI X (d 1) 122 w]) A9 s9.heap H locs := hw
              refine W.eq (g2 := F0 m9 106 ls [.int (iI (wOf w ix 4)), .int (iI (ahM K w ix 15)), .int (iI ((fo + 1) + 1))]) rfl ?_
              refine lo_icmp_le (tgt := 113) E dX8_violations_106 (by decide) (by omega) (by omega) (fun c6 => ?_) (fun c6 => ?_)
              · skip
                refine lv_iconst (v := iI 0) Ex Eb dX8_violations_113 rfl ?_
                refine lo_iadd E dX8_violations_114 ?_
                refine lv_istore_n (lv' := [(1, .int (iI (((fo + 1) + 1) + 0))), (0, .ref (d 0)), (2, .int (iI ix))]) Ex Eb dX8_violations_115 rfl hl (by decide) rfl (fun ls hl => ?_)
                refine lo_iinc (lv' := [(2, .int (iI (ix + 1))), (1, .int (iI (((fo + 1) + 1) + 0))), (0, .ref (d 0))]) E dX8_violations_116 hl (k := 2) rfl (by decide) rfl (fun ls hl => ?_)
                refine lv_goto (tgt := 9) Ex Eb dX8_violations_119 (by decide) ?_
                exact ih9 (ahM K w ix) (((fo + 1) + 1) + 0) (ix + 1) (by omega) (by first | exact iv9_0 | exact ⟨iv9_0.1.tr (sameP_s (ahM_same _ w ix)), (sameW_0 (ahM_same _ w ix)).trans iv9_0.2⟩) (by omega) (by first | (rw [wBad_y (by omega) (by omega), ← iv9_2]; done) | (rw [wBad_y (by omega) (by omega), ← iv9_2]; omega) | (rw [wBad_n (by omega) (by omega), ← iv9_2]; done) | (rw [wBad_n (by omega) (by omega), ← iv9_2]; omega)) _ _ _ hw (lv_sub hl [2, 1, 0] rfl)
              · skip
                refine lv_iconst (v := iI 1) Ex Eb dX8_violations_109 rfl ?_
                refine lv_goto (tgt := 114) Ex Eb dX8_violations_110 (by decide) ?_
                refine lo_iadd E dX8_violations_114 ?_
                refine lv_istore_n (lv' := [(1, .int (iI (((fo + 1) + 1) + 1))), (0, .ref (d 0)), (2, .int (iI ix))]) Ex Eb dX8_violations_115 rfl hl (by decide) rfl (fun ls hl => ?_)
                refine lo_iinc (lv' := [(2, .int (iI (ix + 1))), (1, .int (iI (((fo + 1) + 1) + 1))), (0, .ref (d 0))]) E dX8_violations_116 hl (k := 2) rfl (by decide) rfl (fun ls hl => ?_)
                refine lv_goto (tgt := 9) Ex Eb dX8_violations_119 (by decide) ?_
                exact ih9 (ahM K w ix) (((fo + 1) + 1) + 1) (ix + 1) (by omega) (by first | exact iv9_0 | exact ⟨iv9_0.1.tr (sameP_s (ahM_same _ w ix)), (sameW_0 (ahM_same _ w ix)).trans iv9_0.2⟩) (by omega) (by first | (rw [wBad_y (by omega) (by omega), ← iv9_2]; done) | (rw [wBad_y (by omega) (by omega), ← iv9_2]; omega) | (rw [wBad_n (by omega) (by omega), ← iv9_2]; done) | (rw [wBad_n (by omega) (by omega), ← iv9_2]; omega)) _ _ _ hw (lv_sub hl [2, 1, 0] rfl)
          · skip
            refine lv_aload_n Ex Eb dX8_violations_68 rfl (lv_at hl 1 rfl) ?_
            refine lv_iload_n Ex Eb dX8_violations_69 rfl (lv_at hl 2 rfl) ?_
            refine lv_iconst (v := iI 5) Ex Eb dX8_violations_70 rfl ?_
            refine lo_callV (q0 := 0) (rest := [.int (iI (fo + 1))]) E hK hw (kX8_of l X d K w ix 5 (by omega) (by omega)) (cwV 2 E.2.2.2.2 gX8_violations_X8_of rfl rfl rfl (by decide +kernel) ⟨Nat.le_of_ble_eq_true rfl, Nat.le_of_ble_eq_true rfl⟩) rfl rfl [0, 1] rfl (by decide) hl.1 rfl rfl (Nat.le_of_ble_eq_true rfl) dX8_violations_71 ⟨Nat.le_of_ble_eq_true rfl, Nat.le_of_ble_eq_true rfl⟩ (fun v w1 H locs hq hw => ?_)
            obtain ⟨rfl, rfl⟩ := hq
            have hw : lo_Wd X ([oX8 (d 0) (K 0) (d 1) (d 2) (K 3) (d 3) (K 5) (d 4) (d 5) (d 6) (K 9) (d 7) (K 11) (K 12) (K 13) (K 14) (K 15) (K 16) (K 17) (K 18) (K 19) (K 20) (K 21) (K 22) (K 23) (K 24) (K 25) (K 26) (K 27) (K 28), arI X (d 1) 122 w]) A9 s9.heap H locs := hw
            refine W.eq (g2 := F0 m9 74 ls [.int (iI (wOf w ix 5)), .int (iI (fo + 1))]) rfl ?_
            refine lo_ldc (z := 120000) E hc38 dX8_violations_74 rfl ?_
            refine lo_icmp_lt (tgt := 83) E dX8_violations_76 (by decide) (by omega) (by omega) (fun c7 => ?_) (fun c7 => ?_)
            · skip
              refine lv_iconst (v := iI 0) Ex Eb dX8_violations_83 rfl ?_
              refine lo_iadd E dX8_violations_84 ?_
              refine lv_istore_n (lv' := [(1, .int (iI ((fo + 1) + 0))), (0, .ref (d 0)), (2, .int (iI ix))]) Ex Eb dX8_violations_85 rfl hl (by decide) rfl (fun ls hl => ?_)
              refine lv_iload_n Ex Eb dX8_violations_86 rfl (lv_at hl 0 rfl) ?_
              refine lv_aload_n Ex Eb dX8_violations_87 rfl (lv_at hl 1 rfl) ?_
              refine lv_iload_n Ex Eb dX8_violations_88 rfl (lv_at hl 2 rfl) ?_
              refine lo_callV (q0 := 0) (rest := [.int (iI ((fo + 1) + 0))]) E hK hw (kX8_isRunning l X d K w ix (by omega) (by omega)) (cwV 1 E.2.2.2.2 gX8_violations_X8_isRunning rfl rfl rfl (by decide +kernel) ⟨Nat.le_of_ble_eq_true rfl, Nat.le_of_ble_eq_true rfl⟩) rfl rfl [0, 1] rfl (by decide) hl.1 rfl rfl (Nat.le_of_ble_eq_true rfl) dX8_violations_89 ⟨Nat.le_of_ble_eq_true rfl, Nat.le_of_ble_eq_true rfl⟩ (fun v w1 H locs hq hw => ?_)
              obtain ⟨r8, q89_0, rfl, rfl⟩ := hq
              have hw : lo_Wd X ([oX8 (d 0) (K 0) (d 1) (d 2) (K 3) (d 3) (K 5) (d 4) (d 5) (d 6) (K 9) (d 7) (K 11) (K 12) (K 13) (K 14) (K 15) (K 16) (K 17) (K 18) (K 19) (K 20) (K 21) (K 22) (K 23) (K 24) (K 25) (K 26) (K 27) (K 28), arI X (d 1) 122 w]) A9 s9.heap H locs := hw
              refine W.eq (g2 := F0 m9 92 ls [.int (iI r8), .int (iI ((fo + 1) + 0))]) rfl ?_
              refine lo_if_eq (tgt := 113) E dX8_violations_92 (by decide) (by omega) (fun c9 => ?_) (fun c9 => ?_)
              · skip
                refine lv_iconst (v := iI 0) Ex Eb dX8_violations_113 rfl ?_
                refine lo_iadd E dX8_violations_114 ?_
                refine lv_istore_n (lv' := [(1, .int (iI (((fo + 1) + 0) + 0))), (0, .ref (d 0)), (2, .int (iI ix))]) Ex Eb dX8_violations_115 rfl hl (by decide) rfl (fun ls hl => ?_)
                refine lo_iinc (lv' := [(2, .int (iI (ix + 1))), (1, .int (iI (((fo + 1) + 0) + 0))), (0, .ref (d 0))]) E dX8_violations_116 hl (k := 2) rfl (by decide) rfl (fun ls hl => ?_)
                refine lv_goto (tgt := 9) Ex Eb dX8_violations_119 (by decide) ?_
                exact ih9 K (((fo + 1) + 0) + 0) (ix + 1) (by omega) (by first | exact iv9_0 | exact ⟨iv9_0.1.tr (sameP_s (ahM_same _ w ix)), (sameW_0 (ahM_same _ w ix)).trans iv9_0.2⟩) (by omega) (by first | (rw [wBad_y (by omega) (by omega), ← iv9_2]; done) | (rw [wBad_y (by omega) (by omega), ← iv9_2]; omega) | (rw [wBad_n (by omega) (by omega), ← iv9_2]; done) | (rw [wBad_n (by omega) (by omega), ← iv9_2]; omega)) _ _ _ hw (lv_sub hl [2, 1, 0] rfl)
              · skip
                refine lv_aload_n Ex Eb dX8_violations_95 rfl (lv_at hl 1 rfl) ?_
                refine lv_iload_n Ex Eb dX8_violations_96 rfl (lv_at hl 2 rfl) ?_
                refine lo_callV (q0 := 0) (rest := [.int (iI ((fo + 1) + 0))]) E hK hw (kX8_ahead l X d K w ix (by omega) (hLi)) (cwV 1 E.2.2.2.2 gX8_violations_X8_ahead rfl rfl rfl (by decide +kernel) ⟨Nat.le_of_ble_eq_true rfl, Nat.le_of_ble_eq_true rfl⟩) rfl rfl [0, 1] rfl (by decide) hl.1 rfl rfl (Nat.le_of_ble_eq_true rfl) dX8_violations_97 ⟨Nat.le_of_ble_eq_true rfl, Nat.le_of_ble_eq_true rfl⟩ (fun v w1 H locs hq hw => ?_)
                obtain ⟨q97_0, rfl, rfl⟩ := hq
                have hw : lo_Wd X ([oX8 (d 0) (ahM K w ix 0) (d 1) (d 2) (ahM K w ix 3) (d 3) (ahM K w ix 5) (d 4) (d 5) (d 6) (ahM K w ix 9) (d 7) (ahM K w ix 11) (ahM K w ix 12) (ahM K w ix 13) (ahM K w ix 14) (ahM K w ix 15) (ahM K w ix 16) (ahM K w ix 17) (ahM K w ix 18) (ahM K w ix 19) (ahM K w ix 20) (ahM K w ix 21) (ahM K w ix 22) (ahM K w ix 23) (ahM K w ix 24) (ahM K w ix 25) (ahM K w ix 26) (ahM K w ix 27) (ahM K w ix 28), arI X (d 1) 122 w]) A9 s9.heap H locs := hw
                refine W.eq (g2 := F0 m9 100 ls [.int (iI (ahM K w ix 15)), .int (iI ((fo + 1) + 0))]) rfl ?_
                refine lv_aload_n Ex Eb dX8_violations_100 rfl (lv_at hl 1 rfl) ?_
                refine lv_iload_n Ex Eb dX8_violations_101 rfl (lv_at hl 2 rfl) ?_
                refine lv_iconst (v := iI 4) Ex Eb dX8_violations_102 rfl ?_
                refine lo_callV (q0 := 0) (rest := [.int (iI (ahM K w ix 15)), .int (iI ((fo + 1) + 0))]) E hK hw (kX8_of l X d (ahM K w ix) w ix 4 (by omega) (by omega)) (cwV 2 E.2.2.2.2 gX8_violations_X8_of rfl rfl rfl (by decide +kernel) ⟨Nat.le_of_ble_eq_true rfl, Nat.le_of_ble_eq_true rfl⟩) rfl rfl [0, 1] rfl (by decide) hl.1 rfl rfl (Nat.le_of_ble_eq_true rfl) dX8_violations_103 ⟨Nat.le_of_ble_eq_true rfl, Nat.le_of_ble_eq_true rfl⟩ (fun v w1 H locs hq hw => ?_)
                obtain ⟨rfl, rfl⟩ := hq
                have hw : lo_Wd X ([oX8 (d 0) (ahM K w ix 0) (d 1) (d 2) (ahM K w ix 3) (d 3) (ahM K w ix 5) (d 4) (d 5) (d 6) (ahM K w ix 9) (d 7) (ahM K w ix 11) (ahM K w ix 12) (ahM K w ix 13) (ahM K w ix 14) (ahM K w ix 15) (ahM K w ix 16) (ahM K w ix 17) (ahM K w ix 18) (ahM K w ix 19) (ahM K w ix 20) (ahM K w ix 21) (ahM K w ix 22) (ahM K w ix 23) (ahM K w ix 24) (ahM K w ix 25) (ahM K w ix 26) (ahM K w ix 27) (ahM K w ix 28), arI X (d 1) 122 w]) A9 s9.heap H locs := hw
                refine W.eq (g2 := F0 m9 106 ls [.int (iI (wOf w ix 4)), .int (iI (ahM K w ix 15)), .int (iI ((fo + 1) + 0))]) rfl ?_
                refine lo_icmp_le (tgt := 113) E dX8_violations_106 (by decide) (by omega) (by omega) (fun c10 => ?_) (fun c10 => ?_)
                · skip
                  refine lv_iconst (v := iI 0) Ex Eb dX8_violations_113 rfl ?_
                  refine lo_iadd E dX8_violations_114 ?_
                  refine lv_istore_n (lv' := [(1, .int (iI (((fo + 1) + 0) + 0))), (0, .ref (d 0)), (2, .int (iI ix))]) Ex Eb dX8_violations_115 rfl hl (by decide) rfl (fun ls hl => ?_)
                  refine lo_iinc (lv' := [(2, .int (iI (ix + 1))), (1, .int (iI (((fo + 1) + 0) + 0))), (0, .ref (d 0))]) E dX8_violations_116 hl (k := 2) rfl (by decide) rfl (fun ls hl => ?_)
                  refine lv_goto (tgt := 9) Ex Eb dX8_violations_119 (by decide) ?_
                  exact ih9 (ahM K w ix) (((fo + 1) + 0) + 0) (ix + 1) (by omega) (by first | exact iv9_0 | exact ⟨iv9_0.1.tr (sameP_s (ahM_same _ w ix)), (sameW_0 (ahM_same _ w ix)).trans iv9_0.2⟩) (by omega) (by first | (rw [wBad_y (by omega) (by omega), ← iv9_2]; done) | (rw [wBad_y (by omega) (by omega), ← iv9_2]; omega) | (rw [wBad_n (by omega) (by omega), ← iv9_2]; done) | (rw [wBad_n (by omega) (by omega), ← iv9_2]; omega)) _ _ _ hw (lv_sub hl [2, 1, 0] rfl)
                · skip
                  refine lv_iconst (v := iI 1) Ex Eb dX8_violations_109 rfl ?_
                  refine lv_goto (tgt := 114) Ex Eb dX8_violations_110 (by decide) ?_
                  refine lo_iadd E dX8_violations_114 ?_
                  refine lv_istore_n (lv' := [(1, .int (iI (((fo + 1) + 0) + 1))), (0, .ref (d 0)), (2, .int (iI ix))]) Ex Eb dX8_violations_115 rfl hl (by decide) rfl (fun ls hl => ?_)
                  refine lo_iinc (lv' := [(2, .int (iI (ix + 1))), (1, .int (iI (((fo + 1) + 0) + 1))), (0, .ref (d 0))]) E dX8_violations_116 hl (k := 2) rfl (by decide) rfl (fun ls hl => ?_)
                  refine lv_goto (tgt := 9) Ex Eb dX8_violations_119 (by decide) ?_
                  exact ih9 (ahM K w ix) (((fo + 1) + 0) + 1) (ix + 1) (by omega) (by first | exact iv9_0 | exact ⟨iv9_0.1.tr (sameP_s (ahM_same _ w ix)), (sameW_0 (ahM_same _ w ix)).trans iv9_0.2⟩) (by omega) (by first | (rw [wBad_y (by omega) (by omega), ← iv9_2]; done) | (rw [wBad_y (by omega) (by omega), ← iv9_2]; omega) | (rw [wBad_n (by omega) (by omega), ← iv9_2]; done) | (rw [wBad_n (by omega) (by omega), ← iv9_2]; omega)) _ _ _ hw (lv_sub hl [2, 1, 0] rfl)
            · skip
              refine lv_iconst (v := iI 1) Ex Eb dX8_violations_79 rfl ?_
              refine lv_goto (tgt := 84) Ex Eb dX8_violations_80 (by decide) ?_
              refine lo_iadd E dX8_violations_84 ?_
              refine lv_istore_n (lv' := [(1, .int (iI ((fo + 1) + 1))), (0, .ref (d 0)), (2, .int (iI ix))]) Ex Eb dX8_violations_85 rfl hl (by decide) rfl (fun ls hl => ?_)
              refine lv_iload_n Ex Eb dX8_violations_86 rfl (lv_at hl 0 rfl) ?_
              refine lv_aload_n Ex Eb dX8_violations_87 rfl (lv_at hl 1 rfl) ?_
              refine lv_iload_n Ex Eb dX8_violations_88 rfl (lv_at hl 2 rfl) ?_
              refine lo_callV (q0 := 0) (rest := [.int (iI ((fo + 1) + 1))]) E hK hw (kX8_isRunning l X d K w ix (by omega) (by omega)) (cwV 1 E.2.2.2.2 gX8_violations_X8_isRunning rfl rfl rfl (by decide +kernel) ⟨Nat.le_of_ble_eq_true rfl, Nat.le_of_ble_eq_true rfl⟩) rfl rfl [0, 1] rfl (by decide) hl.1 rfl rfl (Nat.le_of_ble_eq_true rfl) dX8_violations_89 ⟨Nat.le_of_ble_eq_true rfl, Nat.le_of_ble_eq_true rfl⟩ (fun v w1 H locs hq hw => ?_)
              obtain ⟨r11, q89_0, rfl, rfl⟩ := hq
              have hw : lo_Wd X ([oX8 (d 0) (K 0) (d 1) (d 2) (K 3) (d 3) (K 5) (d 4) (d 5) (d 6) (K 9) (d 7) (K 11) (K 12) (K 13) (K 14) (K 15) (K 16) (K 17) (K 18) (K 19) (K 20) (K 21) (K 22) (K 23) (K 24) (K 25) (K 26) (K 27) (K 28), arI X (d 1) 122 w]) A9 s9.heap H locs := hw
              refine W.eq (g2 := F0 m9 92 ls [.int (iI r11), .int (iI ((fo + 1) + 1))]) rfl ?_
              refine lo_if_eq (tgt := 113) E dX8_violations_92 (by decide) (by omega) (fun c12 => ?_) (fun c12 => ?_)
              · skip
                refine lv_iconst (v := iI 0) Ex Eb dX8_violations_113 rfl ?_
                refine lo_iadd E dX8_violations_114 ?_
                refine lv_istore_n (lv' := [(1, .int (iI (((fo + 1) + 1) + 0))), (0, .ref (d 0)), (2, .int (iI ix))]) Ex Eb dX8_violations_115 rfl hl (by decide) rfl (fun ls hl => ?_)
                refine lo_iinc (lv' := [(2, .int (iI (ix + 1))), (1, .int (iI (((fo + 1) + 1) + 0))), (0, .ref (d 0))]) E dX8_violations_116 hl (k := 2) rfl (by decide) rfl (fun ls hl => ?_)
                refine lv_goto (tgt := 9) Ex Eb dX8_violations_119 (by decide) ?_
                exact ih9 K (((fo + 1) + 1) + 0) (ix + 1) (by omega) (by first | exact iv9_0 | exact ⟨iv9_0.1.tr (sameP_s (ahM_same _ w ix)), (sameW_0 (ahM_same _ w ix)).trans iv9_0.2⟩) (by omega) (by first | (rw [wBad_y (by omega) (by omega), ← iv9_2]; done) | (rw [wBad_y (by omega) (by omega), ← iv9_2]; omega) | (rw [wBad_n (by omega) (by omega), ← iv9_2]; done) | (rw [wBad_n (by omega) (by omega), ← iv9_2]; omega)) _ _ _ hw (lv_sub hl [2, 1, 0] rfl)
              · skip
                refine lv_aload_n Ex Eb dX8_violations_95 rfl (lv_at hl 1 rfl) ?_
                refine lv_iload_n Ex Eb dX8_violations_96 rfl (lv_at hl 2 rfl) ?_
                refine lo_callV (q0 := 0) (rest := [.int (iI ((fo + 1) + 1))]) E hK hw (kX8_ahead l X d K w ix (by omega) (hLi)) (cwV 1 E.2.2.2.2 gX8_violations_X8_ahead rfl rfl rfl (by decide +kernel) ⟨Nat.le_of_ble_eq_true rfl, Nat.le_of_ble_eq_true rfl⟩) rfl rfl [0, 1] rfl (by decide) hl.1 rfl rfl (Nat.le_of_ble_eq_true rfl) dX8_violations_97 ⟨Nat.le_of_ble_eq_true rfl, Nat.le_of_ble_eq_true rfl⟩ (fun v w1 H locs hq hw => ?_)
                obtain ⟨q97_0, rfl, rfl⟩ := hq
                have hw : lo_Wd X ([oX8 (d 0) (ahM K w ix 0) (d 1) (d 2) (ahM K w ix 3) (d 3) (ahM K w ix 5) (d 4) (d 5) (d 6) (ahM K w ix 9) (d 7) (ahM K w ix 11) (ahM K w ix 12) (ahM K w ix 13) (ahM K w ix 14) (ahM K w ix 15) (ahM K w ix 16) (ahM K w ix 17) (ahM K w ix 18) (ahM K w ix 19) (ahM K w ix 20) (ahM K w ix 21) (ahM K w ix 22) (ahM K w ix 23) (ahM K w ix 24) (ahM K w ix 25) (ahM K w ix 26) (ahM K w ix 27) (ahM K w ix 28), arI X (d 1) 122 w]) A9 s9.heap H locs := hw
                refine W.eq (g2 := F0 m9 100 ls [.int (iI (ahM K w ix 15)), .int (iI ((fo + 1) + 1))]) rfl ?_
                refine lv_aload_n Ex Eb dX8_violations_100 rfl (lv_at hl 1 rfl) ?_
                refine lv_iload_n Ex Eb dX8_violations_101 rfl (lv_at hl 2 rfl) ?_
                refine lv_iconst (v := iI 4) Ex Eb dX8_violations_102 rfl ?_
                refine lo_callV (q0 := 0) (rest := [.int (iI (ahM K w ix 15)), .int (iI ((fo + 1) + 1))]) E hK hw (kX8_of l X d (ahM K w ix) w ix 4 (by omega) (by omega)) (cwV 2 E.2.2.2.2 gX8_violations_X8_of rfl rfl rfl (by decide +kernel) ⟨Nat.le_of_ble_eq_true rfl, Nat.le_of_ble_eq_true rfl⟩) rfl rfl [0, 1] rfl (by decide) hl.1 rfl rfl (Nat.le_of_ble_eq_true rfl) dX8_violations_103 ⟨Nat.le_of_ble_eq_true rfl, Nat.le_of_ble_eq_true rfl⟩ (fun v w1 H locs hq hw => ?_)
                obtain ⟨rfl, rfl⟩ := hq
                have hw : lo_Wd X ([oX8 (d 0) (ahM K w ix 0) (d 1) (d 2) (ahM K w ix 3) (d 3) (ahM K w ix 5) (d 4) (d 5) (d 6) (ahM K w ix 9) (d 7) (ahM K w ix 11) (ahM K w ix 12) (ahM K w ix 13) (ahM K w ix 14) (ahM K w ix 15) (ahM K w ix 16) (ahM K w ix 17) (ahM K w ix 18) (ahM K w ix 19) (ahM K w ix 20) (ahM K w ix 21) (ahM K w ix 22) (ahM K w ix 23) (ahM K w ix 24) (ahM K w ix 25) (ahM K w ix 26) (ahM K w ix 27) (ahM K w ix 28), arI X (d 1) 122 w]) A9 s9.heap H locs := hw
                refine W.eq (g2 := F0 m9 106 ls [.int (iI (wOf w ix 4)), .int (iI (ahM K w ix 15)), .int (iI ((fo + 1) + 1))]) rfl ?_
                refine lo_icmp_le (tgt := 113) E dX8_violations_106 (by decide) (by omega) (by omega) (fun c13 => ?_) (fun c13 => ?_)
                · skip
                  refine lv_iconst (v := iI 0) Ex Eb dX8_violations_113 rfl ?_
                  refine lo_iadd E dX8_violations_114 ?_
                  refine lv_istore_n (lv' := [(1, .int (iI (((fo + 1) + 1) + 0))), (0, .ref (d 0)), (2, .int (iI ix))]) Ex Eb dX8_violations_115 rfl hl (by decide) rfl (fun ls hl => ?_)
                  refine lo_iinc (lv' := [(2, .int (iI (ix + 1))), (1, .int (iI (((fo + 1) + 1) + 0))), (0, .ref (d 0))]) E dX8_violations_116 hl (k := 2) rfl (by decide) rfl (fun ls hl => ?_)
                  refine lv_goto (tgt := 9) Ex Eb dX8_violations_119 (by decide) ?_
                  exact ih9 (ahM K w ix) (((fo + 1) + 1) + 0) (ix + 1) (by omega) (by first | exact iv9_0 | exact ⟨iv9_0.1.tr (sameP_s (ahM_same _ w ix)), (sameW_0 (ahM_same _ w ix)).trans iv9_0.2⟩) (by omega) (by first | (rw [wBad_y (by omega) (by omega), ← iv9_2]; done) | (rw [wBad_y (by omega) (by omega), ← iv9_2]; omega) | (rw [wBad_n (by omega) (by omega), ← iv9_2]; done) | (rw [wBad_n (by omega) (by omega), ← iv9_2]; omega)) _ _ _ hw (lv_sub hl [2, 1, 0] rfl)
                · skip
                  refine lv_iconst (v := iI 1) Ex Eb dX8_violations_109 rfl ?_
                  refine lv_goto (tgt := 114) Ex Eb dX8_violations_110 (by decide) ?_
                  refine lo_iadd E dX8_violations_114 ?_
                  refine lv_istore_n (lv' := [(1, .int (iI (((fo + 1) + 1) + 1))), (0, .ref (d 0)), (2, .int (iI ix))]) Ex Eb dX8_violations_115 rfl hl (by decide) rfl (fun ls hl => ?_)
                  refine lo_iinc (lv' := [(2, .int (iI (ix + 1))), (1, .int (iI (((fo + 1) + 1) + 1))), (0, .ref (d 0))]) E dX8_violations_116 hl (k := 2) rfl (by decide) rfl (fun ls hl => ?_)
                  refine lv_goto (tgt := 9) Ex Eb dX8_violations_119 (by decide) ?_
                  exact ih9 (ahM K w ix) (((fo + 1) + 1) + 1) (ix + 1) (by omega) (by first | exact iv9_0 | exact ⟨iv9_0.1.tr (sameP_s (ahM_same _ w ix)), (sameW_0 (ahM_same _ w ix)).trans iv9_0.2⟩) (by omega) (by first | (rw [wBad_y (by omega) (by omega), ← iv9_2]; done) | (rw [wBad_y (by omega) (by omega), ← iv9_2]; omega) | (rw [wBad_n (by omega) (by omega), ← iv9_2]; done) | (rw [wBad_n (by omega) (by omega), ← iv9_2]; omega)) _ _ _ hw (lv_sub hl [2, 1, 0] rfl)
        · skip
          refine lv_iconst (v := iI 0) Ex Eb dX8_violations_51 rfl ?_
          refine lv_goto (tgt := 56) Ex Eb dX8_violations_52 (by decide) ?_
          refine lo_iadd E dX8_violations_56 ?_
          refine lv_istore_n (lv' := [(1, .int (iI (fo + 0))), (0, .ref (d 0)), (2, .int (iI ix))]) Ex Eb dX8_violations_57 rfl hl (by decide) rfl (fun ls hl => ?_)
          refine lv_iload_n Ex Eb dX8_violations_58 rfl (lv_at hl 0 rfl) ?_
          refine lv_aload_n Ex Eb dX8_violations_59 rfl (lv_at hl 1 rfl) ?_
          refine lv_iload_n Ex Eb dX8_violations_60 rfl (lv_at hl 2 rfl) ?_
          refine lv_iconst (v := iI 5) Ex Eb dX8_violations_61 rfl ?_
          refine lo_callV (q0 := 0) (rest := [.int (iI (fo + 0))]) E hK hw (kX8_of l X d K w ix 5 (by omega) (by omega)) (cwV 2 E.2.2.2.2 gX8_violations_X8_of rfl rfl rfl (by decide +kernel) ⟨Nat.le_of_ble_eq_true rfl, Nat.le_of_ble_eq_true rfl⟩) rfl rfl [0, 1] rfl (by decide) hl.1 rfl rfl (Nat.le_of_ble_eq_true rfl) dX8_violations_62 ⟨Nat.le_of_ble_eq_true rfl, Nat.le_of_ble_eq_true rfl⟩ (fun v w1 H locs hq hw => ?_)
          obtain ⟨rfl, rfl⟩ := hq
          have hw : lo_Wd X ([oX8 (d 0) (K 0) (d 1) (d 2) (K 3) (d 3) (K 5) (d 4) (d 5) (d 6) (K 9) (d 7) (K 11) (K 12) (K 13) (K 14) (K 15) (K 16) (K 17) (K 18) (K 19) (K 20) (K 21) (K 22) (K 23) (K 24) (K 25) (K 26) (K 27) (K 28), arI X (d 1) 122 w]) A9 s9.heap H locs := hw
          refine W.eq (g2 := F0 m9 65 ls [.int (iI (wOf w ix 5)), .int (iI (fo + 0))]) rfl ?_
          refine lo_if_lt (tgt := 79) E dX8_violations_65 (by decide) (by omega) (fun c14 => ?_) (fun c14 => ?_)
          · skip
            refine lv_iconst (v := iI 1) Ex Eb dX8_violations_79 rfl ?_
            refine lv_goto (tgt := 84) Ex Eb dX8_violations_80 (by decide) ?_
            refine lo_iadd E dX8_violations_84 ?_
            refine lv_istore_n (lv' := [(1, .int (iI ((fo + 0) + 1))), (0, .ref (d 0)), (2, .int (iI ix))]) Ex Eb dX8_violations_85 rfl hl (by decide) rfl (fun ls hl => ?_)
            refine lv_iload_n Ex Eb dX8_violations_86 rfl (lv_at hl 0 rfl) ?_
            refine lv_aload_n Ex Eb dX8_violations_87 rfl (lv_at hl 1 rfl) ?_
            refine lv_iload_n Ex Eb dX8_violations_88 rfl (lv_at hl 2 rfl) ?_
            refine lo_callV (q0 := 0) (rest := [.int (iI ((fo + 0) + 1))]) E hK hw (kX8_isRunning l X d K w ix (by omega) (by omega)) (cwV 1 E.2.2.2.2 gX8_violations_X8_isRunning rfl rfl rfl (by decide +kernel) ⟨Nat.le_of_ble_eq_true rfl, Nat.le_of_ble_eq_true rfl⟩) rfl rfl [0, 1] rfl (by decide) hl.1 rfl rfl (Nat.le_of_ble_eq_true rfl) dX8_violations_89 ⟨Nat.le_of_ble_eq_true rfl, Nat.le_of_ble_eq_true rfl⟩ (fun v w1 H locs hq hw => ?_)
            obtain ⟨r15, q89_0, rfl, rfl⟩ := hq
            have hw : lo_Wd X ([oX8 (d 0) (K 0) (d 1) (d 2) (K 3) (d 3) (K 5) (d 4) (d 5) (d 6) (K 9) (d 7) (K 11) (K 12) (K 13) (K 14) (K 15) (K 16) (K 17) (K 18) (K 19) (K 20) (K 21) (K 22) (K 23) (K 24) (K 25) (K 26) (K 27) (K 28), arI X (d 1) 122 w]) A9 s9.heap H locs := hw
            refine W.eq (g2 := F0 m9 92 ls [.int (iI r15), .int (iI ((fo + 0) + 1))]) rfl ?_
            refine lo_if_eq (tgt := 113) E dX8_violations_92 (by decide) (by omega) (fun c16 => ?_) (fun c16 => ?_)
            · skip
              refine lv_iconst (v := iI 0) Ex Eb dX8_violations_113 rfl ?_
              refine lo_iadd E dX8_violations_114 ?_
              refine lv_istore_n (lv' := [(1, .int (iI (((fo + 0) + 1) + 0))), (0, .ref (d 0)), (2, .int (iI ix))]) Ex Eb dX8_violations_115 rfl hl (by decide) rfl (fun ls hl => ?_)
              refine lo_iinc (lv' := [(2, .int (iI (ix + 1))), (1, .int (iI (((fo + 0) + 1) + 0))), (0, .ref (d 0))]) E dX8_violations_116 hl (k := 2) rfl (by decide) rfl (fun ls hl => ?_)
              refine lv_goto (tgt := 9) Ex Eb dX8_violations_119 (by decide) ?_
              exact ih9 K (((fo + 0) + 1) + 0) (ix + 1) (by omega) (by first | exact iv9_0 | exact ⟨iv9_0.1.tr (sameP_s (ahM_same _ w ix)), (sameW_0 (ahM_same _ w ix)).trans iv9_0.2⟩) (by omega) (by first | (rw [wBad_y (by omega) (by omega), ← iv9_2]; done) | (rw [wBad_y (by omega) (by omega), ← iv9_2]; omega) | (rw [wBad_n (by omega) (by omega), ← iv9_2]; done) | (rw [wBad_n (by omega) (by omega), ← iv9_2]; omega)) _ _ _ hw (lv_sub hl [2, 1, 0] rfl)
            · skip
              refine lv_aload_n Ex Eb dX8_violations_95 rfl (lv_at hl 1 rfl) ?_
              refine lv_iload_n Ex Eb dX8_violations_96 rfl (lv_at hl 2 rfl) ?_
              refine lo_callV (q0 := 0) (rest := [.int (iI ((fo + 0) + 1))]) E hK hw (kX8_ahead l X d K w ix (by omega) (hLi)) (cwV 1 E.2.2.2.2 gX8_violations_X8_ahead rfl rfl rfl (by decide +kernel) ⟨Nat.le_of_ble_eq_true rfl, Nat.le_of_ble_eq_true rfl⟩) rfl rfl [0, 1] rfl (by decide) hl.1 rfl rfl (Nat.le_of_ble_eq_true rfl) dX8_violations_97 ⟨Nat.le_of_ble_eq_true rfl, Nat.le_of_ble_eq_true rfl⟩ (fun v w1 H locs hq hw => ?_)
              obtain ⟨q97_0, rfl, rfl⟩ := hq
              have hw : lo_Wd X ([oX8 (d 0) (ahM K w ix 0) (d 1) (d 2) (ahM K w ix 3) (d 3) (ahM K w ix 5) (d 4) (d 5) (d 6) (ahM K w ix 9) (d 7) (ahM K w ix 11) (ahM K w ix 12) (ahM K w ix 13) (ahM K w ix 14) (ahM K w ix 15) (ahM K w ix 16) (ahM K w ix 17) (ahM K w ix 18) (ahM K w ix 19) (ahM K w ix 20) (ahM K w ix 21) (ahM K w ix 22) (ahM K w ix 23) (ahM K w ix 24) (ahM K w ix 25) (ahM K w ix 26) (ahM K w ix 27) (ahM K w ix 28), arI X (d 1) 122 w]) A9 s9.heap H locs := hw
              refine W.eq (g2 := F0 m9 100 ls [.int (iI (ahM K w ix 15)), .int (iI ((fo + 0) + 1))]) rfl ?_
              refine lv_aload_n Ex Eb dX8_violations_100 rfl (lv_at hl 1 rfl) ?_
              refine lv_iload_n Ex Eb dX8_violations_101 rfl (lv_at hl 2 rfl) ?_
              refine lv_iconst (v := iI 4) Ex Eb dX8_violations_102 rfl ?_
              refine lo_callV (q0 := 0) (rest := [.int (iI (ahM K w ix 15)), .int (iI ((fo + 0) + 1))]) E hK hw (kX8_of l X d (ahM K w ix) w ix 4 (by omega) (by omega)) (cwV 2 E.2.2.2.2 gX8_violations_X8_of rfl rfl rfl (by decide +kernel) ⟨Nat.le_of_ble_eq_true rfl, Nat.le_of_ble_eq_true rfl⟩) rfl rfl [0, 1] rfl (by decide) hl.1 rfl rfl (Nat.le_of_ble_eq_true rfl) dX8_violations_103 ⟨Nat.le_of_ble_eq_true rfl, Nat.le_of_ble_eq_true rfl⟩ (fun v w1 H locs hq hw => ?_)
              obtain ⟨rfl, rfl⟩ := hq
              have hw : lo_Wd X ([oX8 (d 0) (ahM K w ix 0) (d 1) (d 2) (ahM K w ix 3) (d 3) (ahM K w ix 5) (d 4) (d 5) (d 6) (ahM K w ix 9) (d 7) (ahM K w ix 11) (ahM K w ix 12) (ahM K w ix 13) (ahM K w ix 14) (ahM K w ix 15) (ahM K w ix 16) (ahM K w ix 17) (ahM K w ix 18) (ahM K w ix 19) (ahM K w ix 20) (ahM K w ix 21) (ahM K w ix 22) (ahM K w ix 23) (ahM K w ix 24) (ahM K w ix 25) (ahM K w ix 26) (ahM K w ix 27) (ahM K w ix 28), arI X (d 1) 122 w]) A9 s9.heap H locs := hw
              refine W.eq (g2 := F0 m9 106 ls [.int (iI (wOf w ix 4)), .int (iI (ahM K w ix 15)), .int (iI ((fo + 0) + 1))]) rfl ?_
              refine lo_icmp_le (tgt := 113) E dX8_violations_106 (by decide) (by omega) (by omega) (fun c17 => ?_) (fun c17 => ?_)
              · skip
                refine lv_iconst (v := iI 0) Ex Eb dX8_violations_113 rfl ?_
                refine lo_iadd E dX8_violations_114 ?_
                refine lv_istore_n (lv' := [(1, .int (iI (((fo + 0) + 1) + 0))), (0, .ref (d 0)), (2, .int (iI ix))]) Ex Eb dX8_violations_115 rfl hl (by decide) rfl (fun ls hl => ?_)
                refine lo_iinc (lv' := [(2, .int (iI (ix + 1))), (1, .int (iI (((fo + 0) + 1) + 0))), (0, .ref (d 0))]) E dX8_violations_116 hl (k := 2) rfl (by decide) rfl (fun ls hl => ?_)
                refine lv_goto (tgt := 9) Ex Eb dX8_violations_119 (by decide) ?_
                exact ih9 (ahM K w ix) (((fo + 0) + 1) + 0) (ix + 1) (by omega) (by first | exact iv9_0 | exact ⟨iv9_0.1.tr (sameP_s (ahM_same _ w ix)), (sameW_0 (ahM_same _ w ix)).trans iv9_0.2⟩) (by omega) (by first | (rw [wBad_y (by omega) (by omega), ← iv9_2]; done) | (rw [wBad_y (by omega) (by omega), ← iv9_2]; omega) | (rw [wBad_n (by omega) (by omega), ← iv9_2]; done) | (rw [wBad_n (by omega) (by omega), ← iv9_2]; omega)) _ _ _ hw (lv_sub hl [2, 1, 0] rfl)
              · skip
                refine lv_iconst (v := iI 1) Ex Eb dX8_violations_109 rfl ?_
                refine lv_goto (tgt := 114) Ex Eb dX8_violations_110 (by decide) ?_
                refine lo_iadd E dX8_violations_114 ?_
                refine lv_istore_n (lv' := [(1, .int (iI (((fo + 0) + 1) + 1))), (0, .ref (d 0)), (2, .int (iI ix))]) Ex Eb dX8_violations_115 rfl hl (by decide) rfl (fun ls hl => ?_)
                refine lo_iinc (lv' := [(2, .int (iI (ix + 1))), (1, .int (iI (((fo + 0) + 1) + 1))), (0, .ref (d 0))]) E dX8_violations_116 hl (k := 2) rfl (by decide) rfl (fun ls hl => ?_)
                refine lv_goto (tgt := 9) Ex Eb dX8_violations_119 (by decide) ?_
                exact ih9 (ahM K w ix) (((fo + 0) + 1) + 1) (ix + 1) (by omega) (by first | exact iv9_0 | exact ⟨iv9_0.1.tr (sameP_s (ahM_same _ w ix)), (sameW_0 (ahM_same _ w ix)).trans iv9_0.2⟩) (by omega) (by first | (rw [wBad_y (by omega) (by omega), ← iv9_2]; done) | (rw [wBad_y (by omega) (by omega), ← iv9_2]; omega) | (rw [wBad_n (by omega) (by omega), ← iv9_2]; done) | (rw [wBad_n (by omega) (by omega), ← iv9_2]; omega)) _ _ _ hw (lv_sub hl [2, 1, 0] rfl)
          · skip
            refine lv_aload_n Ex Eb dX8_violations_68 rfl (lv_at hl 1 rfl) ?_
            refine lv_iload_n Ex Eb dX8_violations_69 rfl (lv_at hl 2 rfl) ?_
            refine lv_iconst (v := iI 5) Ex Eb dX8_violations_70 rfl ?_
            refine lo_callV (q0 := 0) (rest := [.int (iI (fo + 0))]) E hK hw (kX8_of l X d K w ix 5 (by omega) (by omega)) (cwV 2 E.2.2.2.2 gX8_violations_X8_of rfl rfl rfl (by decide +kernel) ⟨Nat.le_of_ble_eq_true rfl, Nat.le_of_ble_eq_true rfl⟩) rfl rfl [0, 1] rfl (by decide) hl.1 rfl rfl (Nat.le_of_ble_eq_true rfl) dX8_violations_71 ⟨Nat.le_of_ble_eq_true rfl, Nat.le_of_ble_eq_true rfl⟩ (fun v w1 H locs hq hw => ?_)
            obtain ⟨rfl, rfl⟩ := hq
            have hw : lo_Wd X ([oX8 (d 0) (K 0) (d 1) (d 2) (K 3) (d 3) (K 5) (d 4) (d 5) (d 6) (K 9) (d 7) (K 11) (K 12) (K 13) (K 14) (K 15) (K 16) (K 17) (K 18) (K 19) (K 20) (K 21) (K 22) (K 23) (K 24) (K 25) (K 26) (K 27) (K 28), arI X (d 1) 122 w]) A9 s9.heap H locs := hw
            refine W.eq (g2 := F0 m9 74 ls [.int (iI (wOf w ix 5)), .int (iI (fo + 0))]) rfl ?_
            refine lo_ldc (z := 120000) E hc38 dX8_violations_74 rfl ?_
            refine lo_icmp_lt (tgt := 83) E dX8_violations_76 (by decide) (by omega) (by omega) (fun c18 => ?_) (fun c18 => ?_)
            · skip
              refine lv_iconst (v := iI 0) Ex Eb dX8_violations_83 rfl ?_
              refine lo_iadd E dX8_violations_84 ?_
              refine lv_istore_n (lv' := [(1, .int (iI ((fo + 0) + 0))), (0, .ref (d 0)), (2, .int (iI ix))]) Ex Eb dX8_violations_85 rfl hl (by decide) rfl (fun ls hl => ?_)
              refine lv_iload_n Ex Eb dX8_violations_86 rfl (lv_at hl 0 rfl) ?_
              refine lv_aload_n Ex Eb dX8_violations_87 rfl (lv_at hl 1 rfl) ?_
              refine lv_iload_n Ex Eb dX8_violations_88 rfl (lv_at hl 2 rfl) ?_
              refine lo_callV (q0 := 0) (rest := [.int (iI ((fo + 0) + 0))]) E hK hw (kX8_isRunning l X d K w ix (by omega) (by omega)) (cwV 1 E.2.2.2.2 gX8_violations_X8_isRunning rfl rfl rfl (by decide +kernel) ⟨Nat.le_of_ble_eq_true rfl, Nat.le_of_ble_eq_true rfl⟩) rfl rfl [0, 1] rfl (by decide) hl.1 rfl rfl (Nat.le_of_ble_eq_true rfl) dX8_violations_89 ⟨Nat.le_of_ble_eq_true rfl, Nat.le_of_ble_eq_true rfl⟩ (fun v w1 H locs hq hw => ?_)
              obtain ⟨r19, q89_0, rfl, rfl⟩ := hq
              have hw : lo_Wd X ([oX8 (d 0) (K 0) (d 1) (d 2) (K 3) (d 3) (K 5) (d 4) (d 5) (d 6) (K 9) (d 7) (K 11) (K 12) (K 13) (K 14) (K 15) (K 16) (K 17) (K 18) (K 19) (K 20) (K 21) (K 22) (K 23) (K 24) (K 25) (K 26) (K 27) (K 28), arI X (d 1) 122 w]) A9 s9.heap H locs := hw
              refine W.eq (g2 := F0 m9 92 ls [.int (iI r19), .int (iI ((fo + 0) + 0))]) rfl ?_
              refine lo_if_eq (tgt := 113) E dX8_violations_92 (by decide) (by omega) (fun c20 => ?_) (fun c20 => ?_)
              · skip
                refine lv_iconst (v := iI 0) Ex Eb dX8_violations_113 rfl ?_
                refine lo_iadd E dX8_violations_114 ?_
                refine lv_istore_n (lv' := [(1, .int (iI (((fo + 0) + 0) + 0))), (0, .ref (d 0)), (2, .int (iI ix))]) Ex Eb dX8_violations_115 rfl hl (by decide) rfl (fun ls hl => ?_)
                refine lo_iinc (lv' := [(2, .int (iI (ix + 1))), (1, .int (iI (((fo + 0) + 0) + 0))), (0, .ref (d 0))]) E dX8_violations_116 hl (k := 2) rfl (by decide) rfl (fun ls hl => ?_)
                refine lv_goto (tgt := 9) Ex Eb dX8_violations_119 (by decide) ?_
                exact ih9 K (((fo + 0) + 0) + 0) (ix + 1) (by omega) (by first | exact iv9_0 | exact ⟨iv9_0.1.tr (sameP_s (ahM_same _ w ix)), (sameW_0 (ahM_same _ w ix)).trans iv9_0.2⟩) (by omega) (by first | (rw [wBad_y (by omega) (by omega), ← iv9_2]; done) | (rw [wBad_y (by omega) (by omega), ← iv9_2]; omega) | (rw [wBad_n (by omega) (by omega), ← iv9_2]; done) | (rw [wBad_n (by omega) (by omega), ← iv9_2]; omega)) _ _ _ hw (lv_sub hl [2, 1, 0] rfl)
              · skip
                refine lv_aload_n Ex Eb dX8_violations_95 rfl (lv_at hl 1 rfl) ?_
                refine lv_iload_n Ex Eb dX8_violations_96 rfl (lv_at hl 2 rfl) ?_
                refine lo_callV (q0 := 0) (rest := [.int (iI ((fo + 0) + 0))]) E hK hw (kX8_ahead l X d K w ix (by omega) (hLi)) (cwV 1 E.2.2.2.2 gX8_violations_X8_ahead rfl rfl rfl (by decide +kernel) ⟨Nat.le_of_ble_eq_true rfl, Nat.le_of_ble_eq_true rfl⟩) rfl rfl [0, 1] rfl (by decide) hl.1 rfl rfl (Nat.le_of_ble_eq_true rfl) dX8_violations_97 ⟨Nat.le_of_ble_eq_true rfl, Nat.le_of_ble_eq_true rfl⟩ (fun v w1 H locs hq hw => ?_)
                obtain ⟨q97_0, rfl, rfl⟩ := hq
                have hw : lo_Wd X ([oX8 (d 0) (ahM K w ix 0) (d 1) (d 2) (ahM K w ix 3) (d 3) (ahM K w ix 5) (d 4) (d 5) (d 6) (ahM K w ix 9) (d 7) (ahM K w ix 11) (ahM K w ix 12) (ahM K w ix 13) (ahM K w ix 14) (ahM K w ix 15) (ahM K w ix 16) (ahM K w ix 17) (ahM K w ix 18) (ahM K w ix 19) (ahM K w ix 20) (ahM K w ix 21) (ahM K w ix 22) (ahM K w ix 23) (ahM K w ix 24) (ahM K w ix 25) (ahM K w ix 26) (ahM K w ix 27) (ahM K w ix 28), arI X (d 1) 122 w]) A9 s9.heap H locs := hw
                refine W.eq (g2 := F0 m9 100 ls [.int (iI (ahM K w ix 15)), .int (iI ((fo + 0) + 0))]) rfl ?_
                refine lv_aload_n Ex Eb dX8_violations_100 rfl (lv_at hl 1 rfl) ?_
                refine lv_iload_n Ex Eb dX8_violations_101 rfl (lv_at hl 2 rfl) ?_
                refine lv_iconst (v := iI 4) Ex Eb dX8_violations_102 rfl ?_
                refine lo_callV (q0 := 0) (rest := [.int (iI (ahM K w ix 15)), .int (iI ((fo + 0) + 0))]) E hK hw (kX8_of l X d (ahM K w ix) w ix 4 (by omega) (by omega)) (cwV 2 E.2.2.2.2 gX8_violations_X8_of rfl rfl rfl (by decide +kernel) ⟨Nat.le_of_ble_eq_true rfl, Nat.le_of_ble_eq_true rfl⟩) rfl rfl [0, 1] rfl (by decide) hl.1 rfl rfl (Nat.le_of_ble_eq_true rfl) dX8_violations_103 ⟨Nat.le_of_ble_eq_true rfl, Nat.le_of_ble_eq_true rfl⟩ (fun v w1 H locs hq hw => ?_)
                obtain ⟨rfl, rfl⟩ := hq
                have hw : lo_Wd X ([oX8 (d 0) (ahM K w ix 0) (d 1) (d 2) (ahM K w ix 3) (d 3) (ahM K w ix 5) (d 4) (d 5) (d 6) (ahM K w ix 9) (d 7) (ahM K w ix 11) (ahM K w ix 12) (ahM K w ix 13) (ahM K w ix 14) (ahM K w ix 15) (ahM K w ix 16) (ahM K w ix 17) (ahM K w ix 18) (ahM K w ix 19) (ahM K w ix 20) (ahM K w ix 21) (ahM K w ix 22) (ahM K w ix 23) (ahM K w ix 24) (ahM K w ix 25) (ahM K w ix 26) (ahM K w ix 27) (ahM K w ix 28), arI X (d 1) 122 w]) A9 s9.heap H locs := hw
                refine W.eq (g2 := F0 m9 106 ls [.int (iI (wOf w ix 4)), .int (iI (ahM K w ix 15)), .int (iI ((fo + 0) + 0))]) rfl ?_
                refine lo_icmp_le (tgt := 113) E dX8_violations_106 (by decide) (by omega) (by omega) (fun c21 => ?_) (fun c21 => ?_)
                · skip
                  refine lv_iconst (v := iI 0) Ex Eb dX8_violations_113 rfl ?_
                  refine lo_iadd E dX8_violations_114 ?_
                  refine lv_istore_n (lv' := [(1, .int (iI (((fo + 0) + 0) + 0))), (0, .ref (d 0)), (2, .int (iI ix))]) Ex Eb dX8_violations_115 rfl hl (by decide) rfl (fun ls hl => ?_)
                  refine lo_iinc (lv' := [(2, .int (iI (ix + 1))), (1, .int (iI (((fo + 0) + 0) + 0))), (0, .ref (d 0))]) E dX8_violations_116 hl (k := 2) rfl (by decide) rfl (fun ls hl => ?_)
                  refine lv_goto (tgt := 9) Ex Eb dX8_violations_119 (by decide) ?_
                  exact ih9 (ahM K w ix) (((fo + 0) + 0) + 0) (ix + 1) (by omega) (by first | exact iv9_0 | exact ⟨iv9_0.1.tr (sameP_s (ahM_same _ w ix)), (sameW_0 (ahM_same _ w ix)).trans iv9_0.2⟩) (by omega) (by first | (rw [wBad_y (by omega) (by omega), ← iv9_2]; done) | (rw [wBad_y (by omega) (by omega), ← iv9_2]; omega) | (rw [wBad_n (by omega) (by omega), ← iv9_2]; done) | (rw [wBad_n (by omega) (by omega), ← iv9_2]; omega)) _ _ _ hw (lv_sub hl [2, 1, 0] rfl)
                · skip
                  refine lv_iconst (v := iI 1) Ex Eb dX8_violations_109 rfl ?_
                  refine lv_goto (tgt := 114) Ex Eb dX8_violations_110 (by decide) ?_
                  refine lo_iadd E dX8_violations_114 ?_
                  refine lv_istore_n (lv' := [(1, .int (iI (((fo + 0) + 0) + 1))), (0, .ref (d 0)), (2, .int (iI ix))]) Ex Eb dX8_violations_115 rfl hl (by decide) rfl (fun ls hl => ?_)
                  refine lo_iinc (lv' := [(2, .int (iI (ix + 1))), (1, .int (iI (((fo + 0) + 0) + 1))), (0, .ref (d 0))]) E dX8_violations_116 hl (k := 2) rfl (by decide) rfl (fun ls hl => ?_)
                  refine lv_goto (tgt := 9) Ex Eb dX8_violations_119 (by decide) ?_
                  exact ih9 (ahM K w ix) (((fo + 0) + 0) + 1) (ix + 1) (by omega) (by first | exact iv9_0 | exact ⟨iv9_0.1.tr (sameP_s (ahM_same _ w ix)), (sameW_0 (ahM_same _ w ix)).trans iv9_0.2⟩) (by omega) (by first | (rw [wBad_y (by omega) (by omega), ← iv9_2]; done) | (rw [wBad_y (by omega) (by omega), ← iv9_2]; omega) | (rw [wBad_n (by omega) (by omega), ← iv9_2]; done) | (rw [wBad_n (by omega) (by omega), ← iv9_2]; omega)) _ _ _ hw (lv_sub hl [2, 1, 0] rfl)
            · skip
              refine lv_iconst (v := iI 1) Ex Eb dX8_violations_79 rfl ?_
              refine lv_goto (tgt := 84) Ex Eb dX8_violations_80 (by decide) ?_
              refine lo_iadd E dX8_violations_84 ?_
              refine lv_istore_n (lv' := [(1, .int (iI ((fo + 0) + 1))), (0, .ref (d 0)), (2, .int (iI ix))]) Ex Eb dX8_violations_85 rfl hl (by decide) rfl (fun ls hl => ?_)
              refine lv_iload_n Ex Eb dX8_violations_86 rfl (lv_at hl 0 rfl) ?_
              refine lv_aload_n Ex Eb dX8_violations_87 rfl (lv_at hl 1 rfl) ?_
              refine lv_iload_n Ex Eb dX8_violations_88 rfl (lv_at hl 2 rfl) ?_
              refine lo_callV (q0 := 0) (rest := [.int (iI ((fo + 0) + 1))]) E hK hw (kX8_isRunning l X d K w ix (by omega) (by omega)) (cwV 1 E.2.2.2.2 gX8_violations_X8_isRunning rfl rfl rfl (by decide +kernel) ⟨Nat.le_of_ble_eq_true rfl, Nat.le_of_ble_eq_true rfl⟩) rfl rfl [0, 1] rfl (by decide) hl.1 rfl rfl (Nat.le_of_ble_eq_true rfl) dX8_violations_89 ⟨Nat.le_of_ble_eq_true rfl, Nat.le_of_ble_eq_true rfl⟩ (fun v w1 H locs hq hw => ?_)
              obtain ⟨r22, q89_0, rfl, rfl⟩ := hq
              have hw : lo_Wd X ([oX8 (d 0) (K 0) (d 1) (d 2) (K 3) (d 3) (K 5) (d 4) (d 5) (d 6) (K 9) (d 7) (K 11) (K 12) (K 13) (K 14) (K 15) (K 16) (K 17) (K 18) (K 19) (K 20) (K 21) (K 22) (K 23) (K 24) (K 25) (K 26) (K 27) (K 28), arI X (d 1) 122 w]) A9 s9.heap H locs := hw
              refine W.eq (g2 := F0 m9 92 ls [.int (iI r22), .int (iI ((fo + 0) + 1))]) rfl ?_
              refine lo_if_eq (tgt := 113) E dX8_violations_92 (by decide) (by omega) (fun c23 => ?_) (fun c23 => ?_)
              · skip
                refine lv_iconst (v := iI 0) Ex Eb dX8_violations_113 rfl ?_
                refine lo_iadd E dX8_violations_114 ?_
                refine lv_istore_n (lv' := [(1, .int (iI (((fo + 0) + 1) + 0))), (0, .ref (d 0)), (2, .int (iI ix))]) Ex Eb dX8_violations_115 rfl hl (by decide) rfl (fun ls hl => ?_)
                refine lo_iinc (lv' := [(2, .int (iI (ix + 1))), (1, .int (iI (((fo + 0) + 1) + 0))), (0, .ref (d 0))]) E dX8_violations_116 hl (k := 2) rfl (by decide) rfl (fun ls hl => ?_)
                refine lv_goto (tgt := 9) Ex Eb dX8_violations_119 (by decide) ?_
                exact ih9 K (((fo + 0) + 1) + 0) (ix + 1) (by omega) (by first | exact iv9_0 | exact ⟨iv9_0.1.tr (sameP_s (ahM_same _ w ix)), (sameW_0 (ahM_same _ w ix)).trans iv9_0.2⟩) (by omega) (by first | (rw [wBad_y (by omega) (by omega), ← iv9_2]; done) | (rw [wBad_y (by omega) (by omega), ← iv9_2]; omega) | (rw [wBad_n (by omega) (by omega), ← iv9_2]; done) | (rw [wBad_n (by omega) (by omega), ← iv9_2]; omega)) _ _ _ hw (lv_sub hl [2, 1, 0] rfl)
              · skip
                refine lv_aload_n Ex Eb dX8_violations_95 rfl (lv_at hl 1 rfl) ?_
                refine lv_iload_n Ex Eb dX8_violations_96 rfl (lv_at hl 2 rfl) ?_
                refine lo_callV (q0 := 0) (rest := [.int (iI ((fo + 0) + 1))]) E hK hw (kX8_ahead l X d K w ix (by omega) (hLi)) (cwV 1 E.2.2.2.2 gX8_violations_X8_ahead rfl rfl rfl (by decide +kernel) ⟨Nat.le_of_ble_eq_true rfl, Nat.le_of_ble_eq_true rfl⟩) rfl rfl [0, 1] rfl (by decide) hl.1 rfl rfl (Nat.le_of_ble_eq_true rfl) dX8_violations_97 ⟨Nat.le_of_ble_eq_true rfl, Nat.le_of_ble_eq_true rfl⟩ (fun v w1 H locs hq hw => ?_)
                obtain ⟨q97_0, rfl, rfl⟩ := hq
                have hw : lo_Wd X ([oX8 (d 0) (ahM K w ix 0) (d 1) (d 2) (ahM K w ix 3) (d 3) (ahM K w ix 5) (d 4) (d 5) (d 6) (ahM K w ix 9) (d 7) (ahM K w ix 11) (ahM K w ix 12) (ahM K w ix 13) (ahM K w ix 14) (ahM K w ix 15) (ahM K w ix 16) (ahM K w ix 17) (ahM K w ix 18) (ahM K w ix 19) (ahM K w ix 20) (ahM K w ix 21) (ahM K w ix 22) (ahM K w ix 23) (ahM K w ix 24) (ahM K w ix 25) (ahM K w ix 26) (ahM K w ix 27) (ahM K w ix 28), arI X (d 1) 122 w]) A9 s9.heap H locs := hw
                refine W.eq (g2 := F0 m9 100 ls [.int (iI (ahM K w ix 15)), .int (iI ((fo + 0) + 1))]) rfl ?_
                refine lv_aload_n Ex Eb dX8_violations_100 rfl (lv_at hl 1 rfl) ?_
                refine lv_iload_n Ex Eb dX8_violations_101 rfl (lv_at hl 2 rfl) ?_
                refine lv_iconst (v := iI 4) Ex Eb dX8_violations_102 rfl ?_
                refine lo_callV (q0 := 0) (rest := [.int (iI (ahM K w ix 15)), .int (iI ((fo + 0) + 1))]) E hK hw (kX8_of l X d (ahM K w ix) w ix 4 (by omega) (by omega)) (cwV 2 E.2.2.2.2 gX8_violations_X8_of rfl rfl rfl (by decide +kernel) ⟨Nat.le_of_ble_eq_true rfl, Nat.le_of_ble_eq_true rfl⟩) rfl rfl [0, 1] rfl (by decide) hl.1 rfl rfl (Nat.le_of_ble_eq_true rfl) dX8_violations_103 ⟨Nat.le_of_ble_eq_true rfl, Nat.le_of_ble_eq_true rfl⟩ (fun v w1 H locs hq hw => ?_)
                obtain ⟨rfl, rfl⟩ := hq
                have hw : lo_Wd X ([oX8 (d 0) (ahM K w ix 0) (d 1) (d 2) (ahM K w ix 3) (d 3) (ahM K w ix 5) (d 4) (d 5) (d 6) (ahM K w ix 9) (d 7) (ahM K w ix 11) (ahM K w ix 12) (ahM K w ix 13) (ahM K w ix 14) (ahM K w ix 15) (ahM K w ix 16) (ahM K w ix 17) (ahM K w ix 18) (ahM K w ix 19) (ahM K w ix 20) (ahM K w ix 21) (ahM K w ix 22) (ahM K w ix 23) (ahM K w ix 24) (ahM K w ix 25) (ahM K w ix 26) (ahM K w ix 27) (ahM K w ix 28), arI X (d 1) 122 w]) A9 s9.heap H locs := hw
                refine W.eq (g2 := F0 m9 106 ls [.int (iI (wOf w ix 4)), .int (iI (ahM K w ix 15)), .int (iI ((fo + 0) + 1))]) rfl ?_
                refine lo_icmp_le (tgt := 113) E dX8_violations_106 (by decide) (by omega) (by omega) (fun c24 => ?_) (fun c24 => ?_)
                · skip
                  refine lv_iconst (v := iI 0) Ex Eb dX8_violations_113 rfl ?_
                  refine lo_iadd E dX8_violations_114 ?_
                  refine lv_istore_n (lv' := [(1, .int (iI (((fo + 0) + 1) + 0))), (0, .ref (d 0)), (2, .int (iI ix))]) Ex Eb dX8_violations_115 rfl hl (by decide) rfl (fun ls hl => ?_)
                  refine lo_iinc (lv' := [(2, .int (iI (ix + 1))), (1, .int (iI (((fo + 0) + 1) + 0))), (0, .ref (d 0))]) E dX8_violations_116 hl (k := 2) rfl (by decide) rfl (fun ls hl => ?_)
                  refine lv_goto (tgt := 9) Ex Eb dX8_violations_119 (by decide) ?_
                  exact ih9 (ahM K w ix) (((fo + 0) + 1) + 0) (ix + 1) (by omega) (by first | exact iv9_0 | exact ⟨iv9_0.1.tr (sameP_s (ahM_same _ w ix)), (sameW_0 (ahM_same _ w ix)).trans iv9_0.2⟩) (by omega) (by first | (rw [wBad_y (by omega) (by omega), ← iv9_2]; done) | (rw [wBad_y (by omega) (by omega), ← iv9_2]; omega) | (rw [wBad_n (by omega) (by omega), ← iv9_2]; done) | (rw [wBad_n (by omega) (by omega), ← iv9_2]; omega)) _ _ _ hw (lv_sub hl [2, 1, 0] rfl)
                · skip
                  refine lv_iconst (v := iI 1) Ex Eb dX8_violations_109 rfl ?_
                  refine lv_goto (tgt := 114) Ex Eb dX8_violations_110 (by decide) ?_
                  refine lo_iadd E dX8_violations_114 ?_
                  refine lv_istore_n (lv' := [(1, .int (iI (((fo + 0) + 1) + 1))), (0, .ref (d 0)), (2, .int (iI ix))]) Ex Eb dX8_violations_115 rfl hl (by decide) rfl (fun ls hl => ?_)
                  refine lo_iinc (lv' := [(2, .int (iI (ix + 1))), (1, .int (iI (((fo + 0) + 1) + 1))), (0, .ref (d 0))]) E dX8_violations_116 hl (k := 2) rfl (by decide) rfl (fun ls hl => ?_)
                  refine lv_goto (tgt := 9) Ex Eb dX8_violations_119 (by decide) ?_
                  exact ih9 (ahM K w ix) (((fo + 0) + 1) + 1) (ix + 1) (by omega) (by first | exact iv9_0 | exact ⟨iv9_0.1.tr (sameP_s (ahM_same _ w ix)), (sameW_0 (ahM_same _ w ix)).trans iv9_0.2⟩) (by omega) (by first | (rw [wBad_y (by omega) (by omega), ← iv9_2]; done) | (rw [wBad_y (by omega) (by omega), ← iv9_2]; omega) | (rw [wBad_n (by omega) (by omega), ← iv9_2]; done) | (rw [wBad_n (by omega) (by omega), ← iv9_2]; omega)) _ _ _ hw (lv_sub hl [2, 1, 0] rfl)
  exact lp9 _ (uI M 0 0) 0 0 (Nat.lt_succ_self _) (⟨sameP_t, uI_s⟩) (by omega) (rfl) _ _ _ hw (lv_sub hl [2, 1, 0] rfl)
