set_option maxHeartbeats 4000000 in
set_option maxRecDepth 100000 in
theorem kX8_payEach (l : Launch) (X : KX) (d : Nat → Nat) (M w : Nat → Int) (hWI : WI w) : CM l X yX8_payEach wsX8_payEach ({ frames := 4, cells := 0, slots := 0, locals := 88 }) [.ref (d 0)] ([oX8 (d 0) (M 0) (d 1) (d 2) (M 3) (d 3) (M 5) (d 4) (d 5) (d 6) (M 9) (d 7) (M 11) (M 12) (M 13) (M 14) (M 15) (M 16) (M 17) (M 18) (M 19) (M 20) (M 21) (M 22) (M 23) (M 24) (M 25) (M 26) (M 27) (M 28), arI X (d 1) 122 w]) (fun v9 w9 => ∃ N : Nat → Int, (sameW M N) ∧ v9 = some (.int (iI (wSum w (w 0).toNat))) ∧ w9 = [oX8 (d 0) (N 0) (d 1) (d 2) (N 3) (d 3) (N 5) (d 4) (d 5) (d 6) (N 9) (d 7) (N 11) (N 12) (N 13) (N 14) (N 15) (N 16) (N 17) (N 18) (N 19) (N 20) (N 21) (N 22) (N 23) (N 24) (N 25) (N 26) (N 27) (N 28), arI X (d 1) 122 (wAll w (w 0).toNat)]) 0 0 := by
  refine lo_enter (cc := cX8_payEach) (maxL := 3) (ret := (some .int)) (lv := [(0, .ref (d 0))]) (by decide) rfl rfl (Nat.le_of_ble_eq_true rfl) ?_
  intro p9 e9 s9 m9 bl9 me9 c9 A9 ls hAe E hRt hLk hK hl hw
  have Ex := E.1
  have Eb := E.2.1
  have huRX8 : ∀ w ∈ u_ws RX8 TX8 29, w ∈ wsX8_payEach := by decide +kernel
  have hf9 : (Cond.fieldLink RX8 9 "LoanScheduleModel" "w" "[I").before _ s9 = true := E.2.2.2.2 _ (List.mem_of_getElem? (i := 1) rfl)
  obtain ⟨⟨hn0, hn1⟩, ⟨hb0, hb1⟩, hL⟩ := id hWI
  refine lv_iconst (v := iI 0) Ex Eb dX8_payEach_0 rfl ?_
  refine lv_istore_n (lv' := [(1, .int (iI 0)), (0, .ref (d 0))]) Ex Eb dX8_payEach_1 rfl hl (by decide) rfl (fun ls hl => ?_)
  refine lv_iconst (v := iI 0) Ex Eb dX8_payEach_2 rfl ?_
  refine lv_istore_n (lv' := [(2, .int (iI 0)), (1, .int (iI 0)), (0, .ref (d 0))]) Ex Eb dX8_payEach_3 rfl hl (by decide) rfl (fun ls hl => ?_)
  have lp4 : ∀ (n : Nat) (K u : Nat → Int) (sm ix : Int), (w 0 - ix).toNat < n → (sameW M K) → (WI u ∧ u 0 = w 0) → (0 ≤ ix ∧ ix ≤ w 0) → (u = wAll w ix.toNat) → (sm = wSum w ix.toNat) → ∀ (H : Heap) (locs : List Loc) (ls : Array Slot), lo_Wd X ([oX8 (d 0) (K 0) (d 1) (d 2) (K 3) (d 3) (K 5) (d 4) (d 5) (d 6) (K 9) (d 7) (K 11) (K 12) (K 13) (K 14) (K 15) (K 16) (K 17) (K 18) (K 19) (K 20) (K 21) (K 22) (K 23) (K 24) (K 25) (K 26) (K 27) (K 28), arI X (d 1) 122 u]) A9 s9.heap H locs → lv_has ls 3 [(0, .ref (d 0)), (1, .int (iI sm)), (2, .int (iI ix))] → W p9 l e9 ({ frames := 4, cells := 0, slots := 0, locals := 88 } : Room) s9 m9 ([.ref (d 0)] : List Value).toArray bl9 me9 c9 H locs 0 0 (MQ bl9 (lo_Qc X ([oX8 (d 0) (M 0) (d 1) (d 2) (M 3) (d 3) (M 5) (d 4) (d 5) (d 6) (M 9) (d 7) (M 11) (M 12) (M 13) (M 14) (M 15) (M 16) (M 17) (M 18) (M 19) (M 20) (M 21) (M 22) (M 23) (M 24) (M 25) (M 26) (M 27) (M 28), arI X (d 1) 122 w]) s9.heap.size (fun v9 w9 => ∃ N : Nat → Int, (sameW M N) ∧ v9 = some (.int (iI (wSum w (w 0).toNat))) ∧ w9 = [oX8 (d 0) (N 0) (d 1) (d 2) (N 3) (d 3) (N 5) (d 4) (d 5) (d 6) (N 9) (d 7) (N 11) (N 12) (N 13) (N 14) (N 15) (N 16) (N 17) (N 18) (N 19) (N 20) (N 21) (N 22) (N 23) (N 24) (N 25) (N 26) (N 27) (N 28), arI X (d 1) 122 (wAll w (w 0).toNat)])) ([.ref (d 0)] : List Value).toArray s9 0 0 A9) (F0 m9 4 ls []) := by
    intro n
    induction n with
    | zero => intro K u sm ix hn; exact absurd hn (Nat.not_lt_zero _)
    | succ n ih4 =>
      intro K u sm ix hn4 iv4_0 iv4_1 iv4_2 iv4_3 iv4_4 H locs ls hw hl
      have hu0 := iv4_1.2
      refine lv_iload_n Ex Eb dX8_payEach_4 rfl (lv_at hl 2 rfl) ?_
      refine lv_aload_n Ex Eb dX8_payEach_5 rfl (lv_at hl 0 rfl) ?_
      refine lo_get E hK hw huRX8 1 hf9 rfl 0 rfl rfl (by decide) (v := .ref (d 1)) rfl dX8_payEach_6 ?_
      refine lv_iconst (v := iI 0) Ex Eb dX8_payEach_9 rfl ?_
      refine lo_iald E hK hw 1 rfl (by omega) dX8_payEach_10 ?_
      refine W.eq (g2 := F0 m9 11 ls [.int (iI (u 0)), .int (iI ix)]) rfl ?_
      refine lo_icmp_ge (tgt := 40) E dX8_payEach_11 (by decide) (by omega) (by omega) (fun c1 => ?_) (fun c1 => ?_)
      · skip
        refine lv_iload_n Ex Eb dX8_payEach_40 rfl (lv_at hl 1 rfl) ?_
        exact lo_iret E hRt hLk hK hAe hw dX8_payEach_41 rfl ⟨K, (iv4_0), by rw [iv4_4, show ix = w 0 by omega], by rw [iv4_3, show ix = w 0 by omega]⟩
      · skip
        have hu0 := iv4_1.2
        have hLi := iv4_1.1.2.2 ix (by omega) (by omega)
        have hb9 : 0 ≤ wOf u ix 1 ∧ wOf u ix 1 ≤ 9999999 := hLi.1
        have hu1 := iv4_1.1.2.1
        refine lv_iload_n Ex Eb dX8_payEach_14 rfl (lv_at hl 1 rfl) ?_
        refine lv_aload_n Ex Eb dX8_payEach_15 rfl (lv_at hl 0 rfl) ?_
        refine lv_iload_n Ex Eb dX8_payEach_16 rfl (lv_at hl 2 rfl) ?_
        refine lo_callV (q0 := 0) (rest := [.int (iI sm)]) E hK hw (kX8_isRunning l X d K u ix (by omega) (by omega)) (cwV 1 E.2.2.2.2 gX8_payEach_X8_isRunning rfl rfl rfl (by decide +kernel) ⟨Nat.le_of_ble_eq_true rfl, Nat.le_of_ble_eq_true rfl⟩) rfl rfl [0, 1] rfl (by decide) hl.1 rfl rfl (Nat.le_of_ble_eq_true rfl) dX8_payEach_17 ⟨Nat.le_of_ble_eq_true rfl, Nat.le_of_ble_eq_true rfl⟩ (fun v w1 H locs hq hw => ?_)
        obtain ⟨r2, q17_0, rfl, rfl⟩ := hq
        have hw : lo_Wd X ([oX8 (d 0) (K 0) (d 1) (d 2) (K 3) (d 3) (K 5) (d 4) (d 5) (d 6) (K 9) (d 7) (K 11) (K 12) (K 13) (K 14) (K 15) (K 16) (K 17) (K 18) (K 19) (K 20) (K 21) (K 22) (K 23) (K 24) (K 25) (K 26) (K 27) (K 28), arI X (d 1) 122 u]) A9 s9.heap H locs := hw
        refine W.eq (g2 := F0 m9 20 ls [.int (iI r2), .int (iI sm)]) rfl ?_
        refine lo_if_eq (tgt := 31) E dX8_payEach_20 (by decide) (by omega) (fun c3 => ?_) (fun c3 => ?_)
        · skip
          refine lv_iconst (v := iI 0) Ex Eb dX8_payEach_31 rfl ?_
          refine lo_iadd E dX8_payEach_32 ?_
          refine lv_istore_n (lv' := [(1, .int (iI (sm + 0))), (0, .ref (d 0)), (2, .int (iI ix))]) Ex Eb dX8_payEach_33 rfl hl (by decide) rfl (fun ls hl => ?_)
          refine lo_iinc (lv' := [(2, .int (iI (ix + 1))), (1, .int (iI (sm + 0))), (0, .ref (d 0))]) E dX8_payEach_34 hl (k := 2) rfl (by decide) rfl (fun ls hl => ?_)
          refine lv_goto (tgt := 4) Ex Eb dX8_payEach_37 (by decide) ?_
          exact ih4 K u (sm + 0) (ix + 1) (by omega) (by first | exact iv4_0.tr q25_0 | exact iv4_0) (by first | exact ⟨(wPay_WI iv4_1.1 (by omega) (by omega) (by omega)).1, (wPay_WI iv4_1.1 (by omega) (by omega) (by omega)).2.trans hu0⟩ | exact iv4_1) (by omega) (by first | exact wAll_y (by omega) iv4_3 (by omega) | exact wAll_no (by omega) iv4_3 (by omega)) (by first | exact wSum_y (by omega) iv4_3 iv4_4 (by omega) | exact wSum_no (by omega) iv4_3 iv4_4 (by omega)) _ _ _ hw (lv_sub hl [2, 1, 0] rfl)
        · skip
          refine lv_aload_n Ex Eb dX8_payEach_23 rfl (lv_at hl 0 rfl) ?_
          refine lv_iload_n Ex Eb dX8_payEach_24 rfl (lv_at hl 2 rfl) ?_
          refine lo_callV (q0 := 0) (rest := [.int (iI sm)]) E hK hw (kX8_payOne l X d K u ix (by omega) (hLi) (by omega) (hu1)) (cwV 1 E.2.2.2.2 gX8_payEach_X8_payOne rfl rfl rfl (by decide +kernel) ⟨Nat.le_of_ble_eq_true rfl, Nat.le_of_ble_eq_true rfl⟩) rfl rfl [0, 1] rfl (by decide) hl.1 rfl rfl (Nat.le_of_ble_eq_true rfl) dX8_payEach_25 ⟨Nat.le_of_ble_eq_true rfl, Nat.le_of_ble_eq_true rfl⟩ (fun v w1 H locs hq hw => ?_)
          obtain ⟨N4, q25_0, rfl, rfl⟩ := hq
          have hw : lo_Wd X ([oX8 (d 0) (N4 0) (d 1) (d 2) (N4 3) (d 3) (N4 5) (d 4) (d 5) (d 6) (N4 9) (d 7) (N4 11) (N4 12) (N4 13) (N4 14) (N4 15) (N4 16) (N4 17) (N4 18) (N4 19) (N4 20) (N4 21) (N4 22) (N4 23) (N4 24) (N4 25) (N4 26) (N4 27) (N4 28), arI X (d 1) 122 (wPay u ix)]) A9 s9.heap H locs := hw
          refine W.eq (g2 := F0 m9 28 ls [.int (iI (dueL (WL u ix))), .int (iI sm)]) rfl ?_
          refine lv_goto (tgt := 32) Ex Eb dX8_payEach_28 (by decide) ?_
          refine lo_iadd E dX8_payEach_32 ?_
          refine lv_istore_n (lv' := [(1, .int (iI (sm + dueL (WL u ix)))), (0, .ref (d 0)), (2, .int (iI ix))]) Ex Eb dX8_payEach_33 rfl hl (by decide) rfl (fun ls hl => ?_)
          refine lo_iinc (lv' := [(2, .int (iI (ix + 1))), (1, .int (iI (sm + dueL (WL u ix)))), (0, .ref (d 0))]) E dX8_payEach_34 hl (k := 2) rfl (by decide) rfl (fun ls hl => ?_)
          refine lv_goto (tgt := 4) Ex Eb dX8_payEach_37 (by decide) ?_
          exact ih4 N4 (wPay u ix) (sm + dueL (WL u ix)) (ix + 1) (by omega) (by first | exact iv4_0.tr q25_0 | exact iv4_0) (by first | exact ⟨(wPay_WI iv4_1.1 (by omega) (by omega) (by omega)).1, (wPay_WI iv4_1.1 (by omega) (by omega) (by omega)).2.trans hu0⟩ | exact iv4_1) (by omega) (by first | exact wAll_y (by omega) iv4_3 (by omega) | exact wAll_no (by omega) iv4_3 (by omega)) (by first | exact wSum_y (by omega) iv4_3 iv4_4 (by omega) | exact wSum_no (by omega) iv4_3 iv4_4 (by omega)) _ _ _ hw (lv_sub hl [2, 1, 0] rfl)
  exact lp4 _ M w 0 0 (Nat.lt_succ_self _) (sameW.rf) (⟨hWI, rfl⟩) (by omega) (rfl) (rfl) _ _ _ hw (lv_sub hl [2, 1, 0] rfl)
set_option maxHeartbeats 4000000 in
set_option maxRecDepth 100000 in
theorem kX8_extra (l : Launch) (X : KX) (d : Nat → Nat) (M w : Nat → Int) (i a kp : Int) (hi : 0 ≤ i ∧ i < 6) (hLI : LI (WL w i)) (ho : 0 < wOf w i 1) (ha : 1 ≤ a ∧ a ≤ wOf w i 1) (hkp : kp = 0 ∨ kp = 1) (hwk : 0 ≤ w 1 ∧ w 1 ≤ 20) : CM l X yX8_extra wsX8_extra ({ frames := 5, cells := 0, slots := 0, locals := 128 }) [.ref (d 0), .int (iI i), .int (iI a), .int (iI kp)] ([oX8 (d 0) (M 0) (d 1) (d 2) (M 3) (d 3) (M 5) (d 4) (d 5) (d 6) (M 9) (d 7) (M 11) (M 12) (M 13) (M 14) (M 15) (M 16) (M 17) (M 18) (M 19) (M 20) (M 21) (M 22) (M 23) (M 24) (M 25) (M 26) (M 27) (M 28), arI X (d 1) 122 w]) (fun v9 w9 => ∃ N : Nat → Int, (sameW M N) ∧ v9 = none ∧ w9 = [oX8 (d 0) (N 0) (d 1) (d 2) (N 3) (d 3) (N 5) (d 4) (d 5) (d 6) (N 9) (d 7) (N 11) (N 12) (N 13) (N 14) (N 15) (N 16) (N 17) (N 18) (N 19) (N 20) (N 21) (N 22) (N 23) (N 24) (N 25) (N 26) (N 27) (N 28), arI X (d 1) 122 (wRed w i a kp)]) 0 0 := by
  refine lo_enter (cc := cX8_extra) (maxL := 4) (ret := none) (lv := [(0, .ref (d 0)), (1, .int (iI i)), (2, .int (iI a)), (3, .int (iI kp))]) (by decide) rfl rfl (Nat.le_of_ble_eq_true rfl) ?_
  intro p9 e9 s9 m9 bl9 me9 c9 A9 ls hAe E hRt hLk hK hl hw
  have Ex := E.1
  have Eb := E.2.1
  obtain ⟨⟨hb0, hb1⟩, ⟨hr0, hr1⟩, ⟨hc0, hc1⟩, ⟨hm0, hm1⟩, ⟨hi0, hi1⟩, ⟨hk0, hk1⟩, hop, hcl⟩ := id hLI
  change 0 ≤ wOf w i 1 at hb0
  change wOf w i 1 ≤ 9999999 at hb1
  change 0 ≤ wOf w i 2 at hr0
  change wOf w i 2 ≤ 3000 at hr1
  change 0 ≤ wOf w i 5 at hc0
  change wOf w i 5 < 120000 at hc1
  change 0 ≤ wOf w i 3 at hm0
  change wOf w i 3 ≤ 120 at hm1
  change 0 ≤ wOf w i 4 at hi0
  change wOf w i 4 ≤ 10249999 at hi1
  change 0 ≤ wOf w i 9 at hk0
  change wOf w i 9 ≤ 6 ∧ wOf w i 0 + wOf w i 6 - wOf w i 7 = wOf w i 1 at hk1
  have hop3 := (hop ho).1
  change 1 ≤ wOf w i 3 at hop3
  have h1 := wExt_1 (w := w) (i := i) (a := a) hi.1
  have hxo := fun h => wExt_o (w := w) (i := i) (a := a) hi.1 h
  refine lv_aload_n Ex Eb dX8_extra_0 rfl (lv_at hl 0 rfl) ?_
  refine lv_iload_n Ex Eb dX8_extra_1 rfl (lv_at hl 1 rfl) ?_
  refine lv_iconst (v := iI 1) Ex Eb dX8_extra_2 rfl ?_
  refine lv_iload_n Ex Eb dX8_extra_3 rfl (lv_at hl 2 rfl) ?_
  refine lo_ineg E dX8_extra_4 ?_
  refine lo_callV (q0 := 0) (rest := []) E hK hw (kX8_grow l X d M w i 1 (-a) (by omega) (by omega)) (cwV 3 E.2.2.2.2 gX8_extra_X8_grow rfl rfl rfl (by decide +kernel) ⟨Nat.le_of_ble_eq_true rfl, Nat.le_of_ble_eq_true rfl⟩) rfl rfl [0, 1] rfl (by decide) hl.1 rfl rfl (Nat.le_of_ble_eq_true rfl) dX8_extra_5 ⟨Nat.le_of_ble_eq_true rfl, Nat.le_of_ble_eq_true rfl⟩ (fun v w1 H locs hq hw => ?_)
  obtain ⟨rfl, rfl⟩ := hq
  have hw : lo_Wd X ([oX8 (d 0) (M 0) (d 1) (d 2) (M 3) (d 3) (M 5) (d 4) (d 5) (d 6) (M 9) (d 7) (M 11) (M 12) (M 13) (M 14) (M 15) (M 16) (M 17) (M 18) (M 19) (M 20) (M 21) (M 22) (M 23) (M 24) (M 25) (M 26) (M 27) (M 28), arI X (d 1) 122 (wPut w i 1 (wOf w i 1 + -a))]) A9 s9.heap H locs := hw
  refine W.eq (g2 := F0 m9 8 ls []) rfl ?_
  refine lv_aload_n Ex Eb dX8_extra_8 rfl (lv_at hl 0 rfl) ?_
  refine lv_iload_n Ex Eb dX8_extra_9 rfl (lv_at hl 1 rfl) ?_
  refine lv_bipush (v := iI 7) Ex Eb dX8_extra_10 rfl ?_
  refine lv_iload_n Ex Eb dX8_extra_12 rfl (lv_at hl 2 rfl) ?_
  refine lo_callV (q0 := 0) (rest := []) E hK hw (kX8_grow l X d M (wPut w i 1 (wOf w i 1 + -a)) i 7 a (by omega) (by omega)) (cwV 3 E.2.2.2.2 gX8_extra_X8_grow rfl rfl rfl (by decide +kernel) ⟨Nat.le_of_ble_eq_true rfl, Nat.le_of_ble_eq_true rfl⟩) rfl rfl [0, 1] rfl (by decide) hl.1 rfl rfl (Nat.le_of_ble_eq_true rfl) dX8_extra_13 ⟨Nat.le_of_ble_eq_true rfl, Nat.le_of_ble_eq_true rfl⟩ (fun v w1 H locs hq hw => ?_)
  obtain ⟨rfl, rfl⟩ := hq
  have hw : lo_Wd X ([oX8 (d 0) (M 0) (d 1) (d 2) (M 3) (d 3) (M 5) (d 4) (d 5) (d 6) (M 9) (d 7) (M 11) (M 12) (M 13) (M 14) (M 15) (M 16) (M 17) (M 18) (M 19) (M 20) (M 21) (M 22) (M 23) (M 24) (M 25) (M 26) (M 27) (M 28), arI X (d 1) 122 (wPut (wPut w i 1 (wOf w i 1 + -a)) i 7 (wOf (wPut w i 1 (wOf w i 1 + -a)) i 7 + a))]) A9 s9.heap H locs := hw
  refine W.eq (g2 := F0 m9 16 ls []) rfl ?_
  refine lv_aload_n Ex Eb dX8_extra_16 rfl (lv_at hl 0 rfl) ?_
  refine lv_iload_n Ex Eb dX8_extra_17 rfl (lv_at hl 1 rfl) ?_
  refine lv_iload_n Ex Eb dX8_extra_18 rfl (lv_at hl 2 rfl) ?_
  refine lv_iconst (v := iI 0) Ex Eb dX8_extra_19 rfl ?_
  refine lo_callV (q0 := 0) (rest := []) E hK hw (kX8_book l X d M (wPut (wPut w i 1 (wOf w i 1 + -a)) i 7 (wOf (wPut w i 1 (wOf w i 1 + -a)) i 7 + a)) i a 0 (by (repeat rw [wPut_lo hi.1 (by omega) (by omega)]); exact hwk)) (cwV 3 E.2.2.2.2 gX8_extra_X8_book rfl rfl rfl (by decide +kernel) ⟨Nat.le_of_ble_eq_true rfl, Nat.le_of_ble_eq_true rfl⟩) rfl rfl [0, 1] rfl (by decide) hl.1 rfl rfl (Nat.le_of_ble_eq_true rfl) dX8_extra_20 ⟨Nat.le_of_ble_eq_true rfl, Nat.le_of_ble_eq_true rfl⟩ (fun v w1 H locs hq hw => ?_)
  obtain ⟨rfl, rfl⟩ := hq
  have hw : lo_Wd X ([oX8 (d 0) (M 0) (d 1) (d 2) (M 3) (d 3) (M 5) (d 4) (d 5) (d 6) (M 9) (d 7) (M 11) (M 12) (M 13) (M 14) (M 15) (M 16) (M 17) (M 18) (M 19) (M 20) (M 21) (M 22) (M 23) (M 24) (M 25) (M 26) (M 27) (M 28), arI X (d 1) 122 (wBook (wPut (wPut w i 1 (wOf w i 1 + -a)) i 7 (wOf (wPut w i 1 (wOf w i 1 + -a)) i 7 + a)) i a 0)]) A9 s9.heap H locs := hw
  refine W.eq (g2 := F0 m9 23 ls []) rfl ?_
  refine lv_aload_n Ex Eb dX8_extra_23 rfl (lv_at hl 0 rfl) ?_
  refine lv_iload_n Ex Eb dX8_extra_24 rfl (lv_at hl 1 rfl) ?_
  refine lo_callV (q0 := 0) (rest := []) E hK hw (kX8_closeIfPaid l X d M (wBook (wPut (wPut w i 1 (wOf w i 1 + -a)) i 7 (wOf (wPut w i 1 (wOf w i 1 + -a)) i 7 + a)) i a 0) i (hi) (by rw [wOf_b hi.1 (by omega), wOf_n hi.1 (by omega) (by omega) hi.1 (by omega) (by omega) (Or.inr (by omega)), wOf_s]; omega)) (cwV 1 E.2.2.2.2 gX8_extra_X8_closeIfPaid rfl rfl rfl (by decide +kernel) ⟨Nat.le_of_ble_eq_true rfl, Nat.le_of_ble_eq_true rfl⟩) rfl rfl [0, 1] rfl (by decide) hl.1 rfl rfl (Nat.le_of_ble_eq_true rfl) dX8_extra_25 ⟨Nat.le_of_ble_eq_true rfl, Nat.le_of_ble_eq_true rfl⟩ (fun v w1 H locs hq hw => ?_)
  obtain ⟨rfl, rfl⟩ := hq
  have hw : lo_Wd X ([oX8 (d 0) (M 0) (d 1) (d 2) (M 3) (d 3) (M 5) (d 4) (d 5) (d 6) (M 9) (d 7) (M 11) (M 12) (M 13) (M 14) (M 15) (M 16) (M 17) (M 18) (M 19) (M 20) (M 21) (M 22) (M 23) (M 24) (M 25) (M 26) (M 27) (M 28), arI X (d 1) 122 (wClose (wBook (wPut (wPut w i 1 (wOf w i 1 + -a)) i 7 (wOf (wPut w i 1 (wOf w i 1 + -a)) i 7 + a)) i a 0) i)]) A9 s9.heap H locs := hw
  refine W.eq (g2 := F0 m9 28 ls []) rfl ?_
  have hw : lo_Wd X ([oX8 (d 0) (M 0) (d 1) (d 2) (M 3) (d 3) (M 5) (d 4) (d 5) (d 6) (M 9) (d 7) (M 11) (M 12) (M 13) (M 14) (M 15) (M 16) (M 17) (M 18) (M 19) (M 20) (M 21) (M 22) (M 23) (M 24) (M 25) (M 26) (M 27) (M 28), arI X (d 1) 122 (wExt w i a)]) A9 s9.heap H locs := hw
  refine lv_aload_n Ex Eb dX8_extra_28 rfl (lv_at hl 0 rfl) ?_
  refine lv_iload_n Ex Eb dX8_extra_29 rfl (lv_at hl 1 rfl) ?_
  refine lo_callV (q0 := 0) (rest := []) E hK hw (kX8_isRunning l X d M (wExt w i a) i (by omega) (by omega)) (cwV 1 E.2.2.2.2 gX8_extra_X8_isRunning rfl rfl rfl (by decide +kernel) ⟨Nat.le_of_ble_eq_true rfl, Nat.le_of_ble_eq_true rfl⟩) rfl rfl [0, 1] rfl (by decide) hl.1 rfl rfl (Nat.le_of_ble_eq_true rfl) dX8_extra_30 ⟨Nat.le_of_ble_eq_true rfl, Nat.le_of_ble_eq_true rfl⟩ (fun v w1 H locs hq hw => ?_)
  obtain ⟨r1, q30_0, rfl, rfl⟩ := hq
  have hw : lo_Wd X ([oX8 (d 0) (M 0) (d 1) (d 2) (M 3) (d 3) (M 5) (d 4) (d 5) (d 6) (M 9) (d 7) (M 11) (M 12) (M 13) (M 14) (M 15) (M 16) (M 17) (M 18) (M 19) (M 20) (M 21) (M 22) (M 23) (M 24) (M 25) (M 26) (M 27) (M 28), arI X (d 1) 122 (wExt w i a)]) A9 s9.heap H locs := hw
  refine W.eq (g2 := F0 m9 33 ls [.int (iI r1)]) rfl ?_
  refine lo_if_eq (tgt := 48) E dX8_extra_33 (by decide) (by omega) (fun c2 => ?_) (fun c2 => ?_)
  · skip
    refine lv_aload_n Ex Eb dX8_extra_48 rfl (lv_at hl 0 rfl) ?_
    refine lv_iload_n Ex Eb dX8_extra_49 rfl (lv_at hl 1 rfl) ?_
    refine lo_callV (q0 := 0) (rest := []) E hK hw (kX8_isRunning l X d M (wExt w i a) i (by omega) (by omega)) (cwV 1 E.2.2.2.2 gX8_extra_X8_isRunning rfl rfl rfl (by decide +kernel) ⟨Nat.le_of_ble_eq_true rfl, Nat.le_of_ble_eq_true rfl⟩) rfl rfl [0, 1] rfl (by decide) hl.1 rfl rfl (Nat.le_of_ble_eq_true rfl) dX8_extra_50 ⟨Nat.le_of_ble_eq_true rfl, Nat.le_of_ble_eq_true rfl⟩ (fun v w1 H locs hq hw => ?_)
    obtain ⟨r3, q50_0, rfl, rfl⟩ := hq
    have hw : lo_Wd X ([oX8 (d 0) (M 0) (d 1) (d 2) (M 3) (d 3) (M 5) (d 4) (d 5) (d 6) (M 9) (d 7) (M 11) (M 12) (M 13) (M 14) (M 15) (M 16) (M 17) (M 18) (M 19) (M 20) (M 21) (M 22) (M 23) (M 24) (M 25) (M 26) (M 27) (M 28), arI X (d 1) 122 (wExt w i a)]) A9 s9.heap H locs := hw
    refine W.eq (g2 := F0 m9 53 ls [.int (iI r3)]) rfl ?_
    refine lo_if_eq (tgt := 79) E dX8_extra_53 (by decide) (by omega) (fun c4 => ?_) (fun c4 => ?_)
    · skip
      exact lo_vret E hRt hLk hK hAe hw dX8_extra_79 rfl ⟨M, (by first | exact q42_0 | exact q73_0 | exact sameW.rf), rfl, by unfold wRed; first | (rw [if_pos (show 0 < wOf (wExt w i a) i 1 by omega), if_neg (show ¬ kp = 0 by omega)]; done) | (rw [if_pos (show 0 < wOf (wExt w i a) i 1 by omega), if_pos (show kp = 0 by omega)]; done) | (rw [if_neg (show ¬ 0 < wOf (wExt w i a) i 1 by omega)]; done) | (exfalso; omega)⟩
    · skip
      refine lv_aload_n Ex Eb dX8_extra_56 rfl (lv_at hl 0 rfl) ?_
      refine lv_iload_n Ex Eb dX8_extra_57 rfl (lv_at hl 1 rfl) ?_
      refine lv_iconst (v := iI 3) Ex Eb dX8_extra_58 rfl ?_
      refine lv_aload_n Ex Eb dX8_extra_59 rfl (lv_at hl 0 rfl) ?_
      refine lv_iload_n Ex Eb dX8_extra_60 rfl (lv_at hl 1 rfl) ?_
      refine lv_aload_n Ex Eb dX8_extra_61 rfl (lv_at hl 0 rfl) ?_
      refine lv_iload_n Ex Eb dX8_extra_62 rfl (lv_at hl 1 rfl) ?_
      refine lv_iconst (v := iI 2) Ex Eb dX8_extra_63 rfl ?_
      refine lo_callV (q0 := 0) (rest := [.int (iI i), .ref (d 0), .int (iI 3), .int (iI i), .ref (d 0)]) E hK hw (kX8_of l X d M (wExt w i a) i 2 (by omega) (by omega)) (cwV 2 E.2.2.2.2 gX8_extra_X8_of rfl rfl rfl (by decide +kernel) ⟨Nat.le_of_ble_eq_true rfl, Nat.le_of_ble_eq_true rfl⟩) rfl rfl [0, 1] rfl (by decide) hl.1 rfl rfl (Nat.le_of_ble_eq_true rfl) dX8_extra_64 ⟨Nat.le_of_ble_eq_true rfl, Nat.le_of_ble_eq_true rfl⟩ (fun v w1 H locs hq hw => ?_)
      obtain ⟨rfl, rfl⟩ := hq
      have hw : lo_Wd X ([oX8 (d 0) (M 0) (d 1) (d 2) (M 3) (d 3) (M 5) (d 4) (d 5) (d 6) (M 9) (d 7) (M 11) (M 12) (M 13) (M 14) (M 15) (M 16) (M 17) (M 18) (M 19) (M 20) (M 21) (M 22) (M 23) (M 24) (M 25) (M 26) (M 27) (M 28), arI X (d 1) 122 (wExt w i a)]) A9 s9.heap H locs := hw
      refine W.eq (g2 := F0 m9 67 ls [.int (iI (wOf (wExt w i a) i 2)), .int (iI i), .ref (d 0), .int (iI 3), .int (iI i), .ref (d 0)]) rfl ?_
      refine lv_aload_n Ex Eb dX8_extra_67 rfl (lv_at hl 0 rfl) ?_
      refine lv_iload_n Ex Eb dX8_extra_68 rfl (lv_at hl 1 rfl) ?_
      refine lv_iconst (v := iI 4) Ex Eb dX8_extra_69 rfl ?_
      refine lo_callV (q0 := 0) (rest := [.int (iI (wOf (wExt w i a) i 2)), .int (iI i), .ref (d 0), .int (iI 3), .int (iI i), .ref (d 0)]) E hK hw (kX8_of l X d M (wExt w i a) i 4 (by omega) (by omega)) (cwV 2 E.2.2.2.2 gX8_extra_X8_of rfl rfl rfl (by decide +kernel) ⟨Nat.le_of_ble_eq_true rfl, Nat.le_of_ble_eq_true rfl⟩) rfl rfl [0, 1] rfl (by decide) hl.1 rfl rfl (Nat.le_of_ble_eq_true rfl) dX8_extra_70 ⟨Nat.le_of_ble_eq_true rfl, Nat.le_of_ble_eq_true rfl⟩ (fun v w1 H locs hq hw => ?_)
      obtain ⟨rfl, rfl⟩ := hq
      have hw : lo_Wd X ([oX8 (d 0) (M 0) (d 1) (d 2) (M 3) (d 3) (M 5) (d 4) (d 5) (d 6) (M 9) (d 7) (M 11) (M 12) (M 13) (M 14) (M 15) (M 16) (M 17) (M 18) (M 19) (M 20) (M 21) (M 22) (M 23) (M 24) (M 25) (M 26) (M 27) (M 28), arI X (d 1) 122 (wExt w i a)]) A9 s9.heap H locs := hw
      refine W.eq (g2 := F0 m9 73 ls [.int (iI (wOf (wExt w i a) i 4)), .int (iI (wOf (wExt w i a) i 2)), .int (iI i), .ref (d 0), .int (iI 3), .int (iI i), .ref (d 0)]) rfl ?_
      refine lo_callV (q0 := 0) (rest := [.int (iI 3), .int (iI i), .ref (d 0)]) E hK hw (kX8_fewestMonths l X d M (wExt w i a) i (wOf (wExt w i a) i 2) (wOf (wExt w i a) i 4) (hi) (by omega) (by have := hxo (by omega); omega) (by have := hxo (by omega); omega) (by have := hxo (by omega); omega)) (cwV 3 E.2.2.2.2 gX8_extra_X8_fewestMonths rfl rfl rfl (by decide +kernel) ⟨Nat.le_of_ble_eq_true rfl, Nat.le_of_ble_eq_true rfl⟩) rfl rfl [0, 1] rfl (by decide) hl.1 rfl rfl (Nat.le_of_ble_eq_true rfl) dX8_extra_73 ⟨Nat.le_of_ble_eq_true rfl, Nat.le_of_ble_eq_true rfl⟩ (fun v w1 H locs hq hw => ?_)
      obtain ⟨N5, q73_0, rfl, rfl⟩ := hq
      have hw : lo_Wd X ([oX8 (d 0) (N5 0) (d 1) (d 2) (N5 3) (d 3) (N5 5) (d 4) (d 5) (d 6) (N5 9) (d 7) (N5 11) (N5 12) (N5 13) (N5 14) (N5 15) (N5 16) (N5 17) (N5 18) (N5 19) (N5 20) (N5 21) (N5 22) (N5 23) (N5 24) (N5 25) (N5 26) (N5 27) (N5 28), arI X (d 1) 122 (wExt w i a)]) A9 s9.heap H locs := hw
      refine W.eq (g2 := F0 m9 76 ls [.int (iI (trm (wOf (wExt w i a) i 2) (wOf (wExt w i a) i 4) 120 1 (wOf (wExt w i a) i 1) (wOf (wExt w i a) i 5))), .int (iI 3), .int (iI i), .ref (d 0)]) rfl ?_
      refine lo_callV (q0 := 0) (rest := []) E hK hw (kX8_put l X d N5 (wExt w i a) i 3 (trm (wOf (wExt w i a) i 2) (wOf (wExt w i a) i 4) 120 1 (wOf (wExt w i a) i 1) (wOf (wExt w i a) i 5)) (by omega) (by omega)) (cwV 3 E.2.2.2.2 gX8_extra_X8_put rfl rfl rfl (by decide +kernel) ⟨Nat.le_of_ble_eq_true rfl, Nat.le_of_ble_eq_true rfl⟩) rfl rfl [0, 1] rfl (by decide) hl.1 rfl rfl (Nat.le_of_ble_eq_true rfl) dX8_extra_76 ⟨Nat.le_of_ble_eq_true rfl, Nat.le_of_ble_eq_true rfl⟩ (fun v w1 H locs hq hw => ?_)
      obtain ⟨rfl, rfl⟩ := hq
      have hw : lo_Wd X ([oX8 (d 0) (N5 0) (d 1) (d 2) (N5 3) (d 3) (N5 5) (d 4) (d 5) (d 6) (N5 9) (d 7) (N5 11) (N5 12) (N5 13) (N5 14) (N5 15) (N5 16) (N5 17) (N5 18) (N5 19) (N5 20) (N5 21) (N5 22) (N5 23) (N5 24) (N5 25) (N5 26) (N5 27) (N5 28), arI X (d 1) 122 (wPut (wExt w i a) i 3 (trm (wOf (wExt w i a) i 2) (wOf (wExt w i a) i 4) 120 1 (wOf (wExt w i a) i 1) (wOf (wExt w i a) i 5)))]) A9 s9.heap H locs := hw
      refine W.eq (g2 := F0 m9 79 ls []) rfl ?_
      exact lo_vret E hRt hLk hK hAe hw dX8_extra_79 rfl ⟨N5, (by first | exact q42_0 | exact q73_0 | exact sameW.rf), rfl, by unfold wRed; first | (rw [if_pos (show 0 < wOf (wExt w i a) i 1 by omega), if_neg (show ¬ kp = 0 by omega)]; done) | (rw [if_pos (show 0 < wOf (wExt w i a) i 1 by omega), if_pos (show kp = 0 by omega)]; done) | (rw [if_neg (show ¬ 0 < wOf (wExt w i a) i 1 by omega)]; done) | (exfalso; omega)⟩
  · skip
    refine lv_iload_n Ex Eb dX8_extra_36 rfl (lv_at hl 3 rfl) ?_
    refine lo_if_eq (tgt := 48) E dX8_extra_37 (by decide) (by omega) (fun c6 => ?_) (fun c6 => ?_)
    · skip
      refine lv_aload_n Ex Eb dX8_extra_48 rfl (lv_at hl 0 rfl) ?_
      refine lv_iload_n Ex Eb dX8_extra_49 rfl (lv_at hl 1 rfl) ?_
      refine lo_callV (q0 := 0) (rest := []) E hK hw (kX8_isRunning l X d M (wExt w i a) i (by omega) (by omega)) (cwV 1 E.2.2.2.2 gX8_extra_X8_isRunning rfl rfl rfl (by decide +kernel) ⟨Nat.le_of_ble_eq_true rfl, Nat.le_of_ble_eq_true rfl⟩) rfl rfl [0, 1] rfl (by decide) hl.1 rfl rfl (Nat.le_of_ble_eq_true rfl) dX8_extra_50 ⟨Nat.le_of_ble_eq_true rfl, Nat.le_of_ble_eq_true rfl⟩ (fun v w1 H locs hq hw => ?_)
      obtain ⟨r7, q50_0, rfl, rfl⟩ := hq
      have hw : lo_Wd X ([oX8 (d 0) (M 0) (d 1) (d 2) (M 3) (d 3) (M 5) (d 4) (d 5) (d 6) (M 9) (d 7) (M 11) (M 12) (M 13) (M 14) (M 15) (M 16) (M 17) (M 18) (M 19) (M 20) (M 21) (M 22) (M 23) (M 24) (M 25) (M 26) (M 27) (M 28), arI X (d 1) 122 (wExt w i a)]) A9 s9.heap H locs := hw
      refine W.eq (g2 := F0 m9 53 ls [.int (iI r7)]) rfl ?_
      refine lo_if_eq (tgt := 79) E dX8_extra_53 (by decide) (by omega) (fun c8 => ?_) (fun c8 => ?_)
      · skip
        exact lo_vret E hRt hLk hK hAe hw dX8_extra_79 rfl ⟨M, (by first | exact q42_0 | exact q73_0 | exact sameW.rf), rfl, by unfold wRed; first | (rw [if_pos (show 0 < wOf (wExt w i a) i 1 by omega), if_neg (show ¬ kp = 0 by omega)]; done) | (rw [if_pos (show 0 < wOf (wExt w i a) i 1 by omega), if_pos (show kp = 0 by omega)]; done) | (rw [if_neg (show ¬ 0 < wOf (wExt w i a) i 1 by omega)]; done) | (exfalso; omega)⟩
      · skip
        refine lv_aload_n Ex Eb dX8_extra_56 rfl (lv_at hl 0 rfl) ?_
        refine lv_iload_n Ex Eb dX8_extra_57 rfl (lv_at hl 1 rfl) ?_
        refine lv_iconst (v := iI 3) Ex Eb dX8_extra_58 rfl ?_
        refine lv_aload_n Ex Eb dX8_extra_59 rfl (lv_at hl 0 rfl) ?_
        refine lv_iload_n Ex Eb dX8_extra_60 rfl (lv_at hl 1 rfl) ?_
        refine lv_aload_n Ex Eb dX8_extra_61 rfl (lv_at hl 0 rfl) ?_
        refine lv_iload_n Ex Eb dX8_extra_62 rfl (lv_at hl 1 rfl) ?_
        refine lv_iconst (v := iI 2) Ex Eb dX8_extra_63 rfl ?_
        refine lo_callV (q0 := 0) (rest := [.int (iI i), .ref (d 0), .int (iI 3), .int (iI i), .ref (d 0)]) E hK hw (kX8_of l X d M (wExt w i a) i 2 (by omega) (by omega)) (cwV 2 E.2.2.2.2 gX8_extra_X8_of rfl rfl rfl (by decide +kernel) ⟨Nat.le_of_ble_eq_true rfl, Nat.le_of_ble_eq_true rfl⟩) rfl rfl [0, 1] rfl (by decide) hl.1 rfl rfl (Nat.le_of_ble_eq_true rfl) dX8_extra_64 ⟨Nat.le_of_ble_eq_true rfl, Nat.le_of_ble_eq_true rfl⟩ (fun v w1 H locs hq hw => ?_)
        obtain ⟨rfl, rfl⟩ := hq
        have hw : lo_Wd X ([oX8 (d 0) (M 0) (d 1) (d 2) (M 3) (d 3) (M 5) (d 4) (d 5) (d 6) (M 9) (d 7) (M 11) (M 12) (M 13) (M 14) (M 15) (M 16) (M 17) (M 18) (M 19) (M 20) (M 21) (M 22) (M 23) (M 24) (M 25) (M 26) (M 27) (M 28), arI X (d 1) 122 (wExt w i a)]) A9 s9.heap H locs := hw
        refine W.eq (g2 := F0 m9 67 ls [.int (iI (wOf (wExt w i a) i 2)), .int (iI i), .ref (d 0), .int (iI 3), .int (iI i), .ref (d 0)]) rfl ?_
        refine lv_aload_n Ex Eb dX8_extra_67 rfl (lv_at hl 0 rfl) ?_
        refine lv_iload_n Ex Eb dX8_extra_68 rfl (lv_at hl 1 rfl) ?_
        refine lv_iconst (v := iI 4) Ex Eb dX8_extra_69 rfl ?_
        refine lo_callV (q0 := 0) (rest := [.int (iI (wOf (wExt w i a) i 2)), .int (iI i), .ref (d 0), .int (iI 3), .int (iI i), .ref (d 0)]) E hK hw (kX8_of l X d M (wExt w i a) i 4 (by omega) (by omega)) (cwV 2 E.2.2.2.2 gX8_extra_X8_of rfl rfl rfl (by decide +kernel) ⟨Nat.le_of_ble_eq_true rfl, Nat.le_of_ble_eq_true rfl⟩) rfl rfl [0, 1] rfl (by decide) hl.1 rfl rfl (Nat.le_of_ble_eq_true rfl) dX8_extra_70 ⟨Nat.le_of_ble_eq_true rfl, Nat.le_of_ble_eq_true rfl⟩ (fun v w1 H locs hq hw => ?_)
        obtain ⟨rfl, rfl⟩ := hq
        have hw : lo_Wd X ([oX8 (d 0) (M 0) (d 1) (d 2) (M 3) (d 3) (M 5) (d 4) (d 5) (d 6) (M 9) (d 7) (M 11) (M 12) (M 13) (M 14) (M 15) (M 16) (M 17) (M 18) (M 19) (M 20) (M 21) (M 22) (M 23) (M 24) (M 25) (M 26) (M 27) (M 28), arI X (d 1) 122 (wExt w i a)]) A9 s9.heap H locs := hw
        refine W.eq (g2 := F0 m9 73 ls [.int (iI (wOf (wExt w i a) i 4)), .int (iI (wOf (wExt w i a) i 2)), .int (iI i), .ref (d 0), .int (iI 3), .int (iI i), .ref (d 0)]) rfl ?_
        refine lo_callV (q0 := 0) (rest := [.int (iI 3), .int (iI i), .ref (d 0)]) E hK hw (kX8_fewestMonths l X d M (wExt w i a) i (wOf (wExt w i a) i 2) (wOf (wExt w i a) i 4) (hi) (by omega) (by have := hxo (by omega); omega) (by have := hxo (by omega); omega) (by have := hxo (by omega); omega)) (cwV 3 E.2.2.2.2 gX8_extra_X8_fewestMonths rfl rfl rfl (by decide +kernel) ⟨Nat.le_of_ble_eq_true rfl, Nat.le_of_ble_eq_true rfl⟩) rfl rfl [0, 1] rfl (by decide) hl.1 rfl rfl (Nat.le_of_ble_eq_true rfl) dX8_extra_73 ⟨Nat.le_of_ble_eq_true rfl, Nat.le_of_ble_eq_true rfl⟩ (fun v w1 H locs hq hw => ?_)
        obtain ⟨N9, q73_0, rfl, rfl⟩ := hq
        have hw : lo_Wd X ([oX8 (d 0) (N9 0) (d 1) (d 2) (N9 3) (d 3) (N9 5) (d 4) (d 5) (d 6) (N9 9) (d 7) (N9 11) (N9 12) (N9 13) (N9 14) (N9 15) (N9 16) (N9 17) (N9 18) (N9 19) (N9 20) (N9 21) (N9 22) (N9 23) (N9 24) (N9 25) (N9 26) (N9 27) (N9 28), arI X (d 1) 122 (wExt w i a)]) A9 s9.heap H locs := hw
        refine W.eq (g2 := F0 m9 76 ls [.int (iI (trm (wOf (wExt w i a) i 2) (wOf (wExt w i a) i 4) 120 1 (wOf (wExt w i a) i 1) (wOf (wExt w i a) i 5))), .int (iI 3), .int (iI i), .ref (d 0)]) rfl ?_
        refine lo_callV (q0 := 0) (rest := []) E hK hw (kX8_put l X d N9 (wExt w i a) i 3 (trm (wOf (wExt w i a) i 2) (wOf (wExt w i a) i 4) 120 1 (wOf (wExt w i a) i 1) (wOf (wExt w i a) i 5)) (by omega) (by omega)) (cwV 3 E.2.2.2.2 gX8_extra_X8_put rfl rfl rfl (by decide +kernel) ⟨Nat.le_of_ble_eq_true rfl, Nat.le_of_ble_eq_true rfl⟩) rfl rfl [0, 1] rfl (by decide) hl.1 rfl rfl (Nat.le_of_ble_eq_true rfl) dX8_extra_76 ⟨Nat.le_of_ble_eq_true rfl, Nat.le_of_ble_eq_true rfl⟩ (fun v w1 H locs hq hw => ?_)
        obtain ⟨rfl, rfl⟩ := hq
        have hw : lo_Wd X ([oX8 (d 0) (N9 0) (d 1) (d 2) (N9 3) (d 3) (N9 5) (d 4) (d 5) (d 6) (N9 9) (d 7) (N9 11) (N9 12) (N9 13) (N9 14) (N9 15) (N9 16) (N9 17) (N9 18) (N9 19) (N9 20) (N9 21) (N9 22) (N9 23) (N9 24) (N9 25) (N9 26) (N9 27) (N9 28), arI X (d 1) 122 (wPut (wExt w i a) i 3 (trm (wOf (wExt w i a) i 2) (wOf (wExt w i a) i 4) 120 1 (wOf (wExt w i a) i 1) (wOf (wExt w i a) i 5)))]) A9 s9.heap H locs := hw
        refine W.eq (g2 := F0 m9 79 ls []) rfl ?_
        exact lo_vret E hRt hLk hK hAe hw dX8_extra_79 rfl ⟨N9, (by first | exact q42_0 | exact q73_0 | exact sameW.rf), rfl, by unfold wRed; first | (rw [if_pos (show 0 < wOf (wExt w i a) i 1 by omega), if_neg (show ¬ kp = 0 by omega)]; done) | (rw [if_pos (show 0 < wOf (wExt w i a) i 1 by omega), if_pos (show kp = 0 by omega)]; done) | (rw [if_neg (show ¬ 0 < wOf (wExt w i a) i 1 by omega)]; done) | (exfalso; omega)⟩
    · skip
      refine lv_aload_n Ex Eb dX8_extra_40 rfl (lv_at hl 0 rfl) ?_
      refine lv_iload_n Ex Eb dX8_extra_41 rfl (lv_at hl 1 rfl) ?_
      refine lo_callV (q0 := 0) (rest := []) E hK hw (kX8_calculate l X d M (wExt w i a) i (hi) (by omega) (by have := hxo (by omega); omega) (by have := hxo (by omega); omega) (by have := hxo (by omega); omega)) (cwV 1 E.2.2.2.2 gX8_extra_X8_calculate rfl rfl rfl (by decide +kernel) ⟨Nat.le_of_ble_eq_true rfl, Nat.le_of_ble_eq_true rfl⟩) rfl rfl [0, 1] rfl (by decide) hl.1 rfl rfl (Nat.le_of_ble_eq_true rfl) dX8_extra_42 ⟨Nat.le_of_ble_eq_true rfl, Nat.le_of_ble_eq_true rfl⟩ (fun v w1 H locs hq hw => ?_)
      obtain ⟨N10, q42_0, rfl, rfl⟩ := hq
      have hw : lo_Wd X ([oX8 (d 0) (N10 0) (d 1) (d 2) (N10 3) (d 3) (N10 5) (d 4) (d 5) (d 6) (N10 9) (d 7) (N10 11) (N10 12) (N10 13) (N10 14) (N10 15) (N10 16) (N10 17) (N10 18) (N10 19) (N10 20) (N10 21) (N10 22) (N10 23) (N10 24) (N10 25) (N10 26) (N10 27) (N10 28), arI X (d 1) 122 (wCalc (wExt w i a) i)]) A9 s9.heap H locs := hw
      refine W.eq (g2 := F0 m9 45 ls []) rfl ?_
      refine lv_goto (tgt := 79) Ex Eb dX8_extra_45 (by decide) ?_
      exact lo_vret E hRt hLk hK hAe hw dX8_extra_79 rfl ⟨N10, (by first | exact q42_0 | exact q73_0 | exact sameW.rf), rfl, by unfold wRed; first | (rw [if_pos (show 0 < wOf (wExt w i a) i 1 by omega), if_neg (show ¬ kp = 0 by omega)]; done) | (rw [if_pos (show 0 < wOf (wExt w i a) i 1 by omega), if_pos (show kp = 0 by omega)]; done) | (rw [if_neg (show ¬ 0 < wOf (wExt w i a) i 1 by omega)]; done) | (exfalso; omega)⟩
set_option maxHeartbeats 4000000 in
set_option maxRecDepth 100000 in
theorem kX8_skip (l : Launch) (X : KX) (d : Nat → Nat) (M w : Nat → Int) (i : Int) (hi : 0 ≤ i ∧ i < 6) (hLI : LI (WL w i)) (ho : 0 < wOf w i 1) (hfw9 : fW (wOf w i 1) (wOf w i 2) (wOf w i 5) ≤ 9999999) : CM l X yX8_skip wsX8_skip ({ frames := 5, cells := 0, slots := 0, locals := 128 }) [.ref (d 0), .int (iI i)] ([oX8 (d 0) (M 0) (d 1) (d 2) (M 3) (d 3) (M 5) (d 4) (d 5) (d 6) (M 9) (d 7) (M 11) (M 12) (M 13) (M 14) (M 15) (M 16) (M 17) (M 18) (M 19) (M 20) (M 21) (M 22) (M 23) (M 24) (M 25) (M 26) (M 27) (M 28), arI X (d 1) 122 w]) (fun v9 w9 => ∃ N : Nat → Int, (sameW M N) ∧ v9 = some (.int (iI (fI (wOf w i 1) (wOf w i 2) (wOf w i 5)))) ∧ w9 = [oX8 (d 0) (N 0) (d 1) (d 2) (N 3) (d 3) (N 5) (d 4) (d 5) (d 6) (N 9) (d 7) (N 11) (N 12) (N 13) (N 14) (N 15) (N 16) (N 17) (N 18) (N 19) (N 20) (N 21) (N 22) (N 23) (N 24) (N 25) (N 26) (N 27) (N 28), arI X (d 1) 122 (wDef w i)]) 0 0 := by
  refine lo_enter (cc := cX8_skip) (maxL := 3) (ret := (some .int)) (lv := [(0, .ref (d 0)), (1, .int (iI i))]) (by decide) rfl rfl (Nat.le_of_ble_eq_true rfl) ?_
  intro p9 e9 s9 m9 bl9 me9 c9 A9 ls hAe E hRt hLk hK hl hw
  have Ex := E.1
  have Eb := E.2.1
  have huRX8 : ∀ w ∈ u_ws RX8 TX8 29, w ∈ wsX8_skip := by decide +kernel
  have hf94 : (Cond.fieldLink RX8 94 "LoanScheduleModel" "walkInterest" "J").before _ s9 = true := E.2.2.2.2 _ (List.mem_of_getElem? (i := 1) rfl)
  have hf82 : (Cond.fieldLink RX8 82 "LoanScheduleModel" "walkCarry" "J").before _ s9 = true := E.2.2.2.2 _ (List.mem_of_getElem? (i := 2) rfl)
  obtain ⟨⟨hb0, hb1⟩, ⟨hr0, hr1⟩, ⟨hc0, hc1⟩, ⟨hm0, hm1⟩, ⟨hi0, hi1⟩, ⟨hk0, hk1⟩, hop, hcl⟩ := id hLI
  change 0 ≤ wOf w i 1 at hb0
  change wOf w i 1 ≤ 9999999 at hb1
  change 0 ≤ wOf w i 2 at hr0
  change wOf w i 2 ≤ 3000 at hr1
  change 0 ≤ wOf w i 5 at hc0
  change wOf w i 5 < 120000 at hc1
  change 0 ≤ wOf w i 3 at hm0
  change wOf w i 3 ≤ 120 at hm1
  change 0 ≤ wOf w i 4 at hi0
  change wOf w i 4 ≤ 10249999 at hi1
  change 0 ≤ wOf w i 9 at hk0
  change wOf w i 9 ≤ 6 ∧ wOf w i 0 + wOf w i 6 - wOf w i 7 = wOf w i 1 at hk1
  have hop3 := (hop ho).1
  have hdo := wDf_o (w := w) (i := i) hi.1
  have hfi := fI_r hb0 hr0 hr1 hc0 hc1
  have hfw : fW (wOf w i 1) (wOf w i 2) (wOf w i 5) = wOf w i 1 + fI (wOf w i 1) (wOf w i 2) (wOf w i 5) := rfl
  have hfc := fC_r (wOf w i 1) (wOf w i 2) (wOf w i 5)
  change 1 ≤ wOf w i 3 at hop3
  refine lv_aload_n Ex Eb dX8_skip_0 rfl (lv_at hl 0 rfl) ?_
  refine lv_iload_n Ex Eb dX8_skip_1 rfl (lv_at hl 1 rfl) ?_
  refine lo_callV (q0 := 0) (rest := []) E hK hw (kX8_nextMonth l X d M w i (by omega) (by omega)) (cwV 1 E.2.2.2.2 gX8_skip_X8_nextMonth rfl rfl rfl (by decide +kernel) ⟨Nat.le_of_ble_eq_true rfl, Nat.le_of_ble_eq_true rfl⟩) rfl rfl [0, 1] rfl (by decide) hl.1 rfl rfl (Nat.le_of_ble_eq_true rfl) dX8_skip_2 ⟨Nat.le_of_ble_eq_true rfl, Nat.le_of_ble_eq_true rfl⟩ (fun v w1 H locs hq hw => ?_)
  obtain ⟨rfl, rfl⟩ := hq
  have hw : lo_Wd X ([oX8 (d 0) (nmM M w i 0) (d 1) (d 2) (nmM M w i 3) (d 3) (nmM M w i 5) (d 4) (d 5) (d 6) (nmM M w i 9) (d 7) (nmM M w i 11) (nmM M w i 12) (nmM M w i 13) (nmM M w i 14) (nmM M w i 15) (nmM M w i 16) (nmM M w i 17) (nmM M w i 18) (nmM M w i 19) (nmM M w i 20) (nmM M w i 21) (nmM M w i 22) (nmM M w i 23) (nmM M w i 24) (nmM M w i 25) (nmM M w i 26) (nmM M w i 27) (nmM M w i 28), arI X (d 1) 122 w]) A9 s9.heap H locs := hw
  refine W.eq (g2 := F0 m9 5 ls []) rfl ?_
  refine lv_aload_n Ex Eb dX8_skip_5 rfl (lv_at hl 0 rfl) ?_
  refine lo_get E hK hw huRX8 14 hf94 rfl 0 rfl rfl (by decide) (v := .long (iL (nmM M w i 14))) rfl dX8_skip_6 ?_
  refine lo_l2i E dX8_skip_9 ?_
  refine lv_istore_n (lv' := [(2, .int (iI (nmM M w i 14))), (0, .ref (d 0)), (1, .int (iI i))]) Ex Eb dX8_skip_10 rfl hl (by decide) rfl (fun ls hl => ?_)
  refine lv_aload_n Ex Eb dX8_skip_11 rfl (lv_at hl 1 rfl) ?_
  refine lv_iload_n Ex Eb dX8_skip_12 rfl (lv_at hl 2 rfl) ?_
  refine lv_iconst (v := iI 5) Ex Eb dX8_skip_13 rfl ?_
  refine lv_aload_n Ex Eb dX8_skip_14 rfl (lv_at hl 1 rfl) ?_
  refine lo_get E hK hw huRX8 13 hf82 rfl 0 rfl rfl (by decide) (v := .long (iL (nmM M w i 13))) rfl dX8_skip_15 ?_
  refine lo_l2i E dX8_skip_18 ?_
  refine lo_callV (q0 := 0) (rest := []) E hK hw (kX8_put l X d (nmM M w i) w i 5 (nmM M w i 13) (by omega) (by omega)) (cwV 3 E.2.2.2.2 gX8_skip_X8_put rfl rfl rfl (by decide +kernel) ⟨Nat.le_of_ble_eq_true rfl, Nat.le_of_ble_eq_true rfl⟩) rfl rfl [0, 1] rfl (by decide) hl.1 rfl rfl (Nat.le_of_ble_eq_true rfl) dX8_skip_19 ⟨Nat.le_of_ble_eq_true rfl, Nat.le_of_ble_eq_true rfl⟩ (fun v w1 H locs hq hw => ?_)
  obtain ⟨rfl, rfl⟩ := hq
  have hw : lo_Wd X ([oX8 (d 0) (nmM M w i 0) (d 1) (d 2) (nmM M w i 3) (d 3) (nmM M w i 5) (d 4) (d 5) (d 6) (nmM M w i 9) (d 7) (nmM M w i 11) (nmM M w i 12) (nmM M w i 13) (nmM M w i 14) (nmM M w i 15) (nmM M w i 16) (nmM M w i 17) (nmM M w i 18) (nmM M w i 19) (nmM M w i 20) (nmM M w i 21) (nmM M w i 22) (nmM M w i 23) (nmM M w i 24) (nmM M w i 25) (nmM M w i 26) (nmM M w i 27) (nmM M w i 28), arI X (d 1) 122 (wPut w i 5 (nmM M w i 13))]) A9 s9.heap H locs := hw
  refine W.eq (g2 := F0 m9 22 ls []) rfl ?_
  refine lv_aload_n Ex Eb dX8_skip_22 rfl (lv_at hl 1 rfl) ?_
  refine lv_iload_n Ex Eb dX8_skip_23 rfl (lv_at hl 2 rfl) ?_
  refine lv_iconst (v := iI 1) Ex Eb dX8_skip_24 rfl ?_
  refine lv_iload_n Ex Eb dX8_skip_25 rfl (lv_at hl 0 rfl) ?_
  refine lo_callV (q0 := 0) (rest := []) E hK hw (kX8_grow l X d (nmM M w i) (wPut w i 5 (nmM M w i 13)) i 1 (nmM M w i 14) (by omega) (by omega)) (cwV 3 E.2.2.2.2 gX8_skip_X8_grow rfl rfl rfl (by decide +kernel) ⟨Nat.le_of_ble_eq_true rfl, Nat.le_of_ble_eq_true rfl⟩) rfl rfl [0, 1] rfl (by decide) hl.1 rfl rfl (Nat.le_of_ble_eq_true rfl) dX8_skip_26 ⟨Nat.le_of_ble_eq_true rfl, Nat.le_of_ble_eq_true rfl⟩ (fun v w1 H locs hq hw => ?_)
  obtain ⟨rfl, rfl⟩ := hq
  have hw : lo_Wd X ([oX8 (d 0) (nmM M w i 0) (d 1) (d 2) (nmM M w i 3) (d 3) (nmM M w i 5) (d 4) (d 5) (d 6) (nmM M w i 9) (d 7) (nmM M w i 11) (nmM M w i 12) (nmM M w i 13) (nmM M w i 14) (nmM M w i 15) (nmM M w i 16) (nmM M w i 17) (nmM M w i 18) (nmM M w i 19) (nmM M w i 20) (nmM M w i 21) (nmM M w i 22) (nmM M w i 23) (nmM M w i 24) (nmM M w i 25) (nmM M w i 26) (nmM M w i 27) (nmM M w i 28), arI X (d 1) 122 (wPut (wPut w i 5 (nmM M w i 13)) i 1 (wOf (wPut w i 5 (nmM M w i 13)) i 1 + (nmM M w i 14)))]) A9 s9.heap H locs := hw
  refine W.eq (g2 := F0 m9 29 ls []) rfl ?_
  refine lv_aload_n Ex Eb dX8_skip_29 rfl (lv_at hl 1 rfl) ?_
  refine lv_iload_n Ex Eb dX8_skip_30 rfl (lv_at hl 2 rfl) ?_
  refine lv_bipush (v := iI 6) Ex Eb dX8_skip_31 rfl ?_
  refine lv_iload_n Ex Eb dX8_skip_33 rfl (lv_at hl 0 rfl) ?_
  refine lo_callV (q0 := 0) (rest := []) E hK hw (kX8_grow l X d (nmM M w i) (wPut (wPut w i 5 (nmM M w i 13)) i 1 (wOf (wPut w i 5 (nmM M w i 13)) i 1 + (nmM M w i 14))) i 6 (nmM M w i 14) (by omega) (by omega)) (cwV 3 E.2.2.2.2 gX8_skip_X8_grow rfl rfl rfl (by decide +kernel) ⟨Nat.le_of_ble_eq_true rfl, Nat.le_of_ble_eq_true rfl⟩) rfl rfl [0, 1] rfl (by decide) hl.1 rfl rfl (Nat.le_of_ble_eq_true rfl) dX8_skip_34 ⟨Nat.le_of_ble_eq_true rfl, Nat.le_of_ble_eq_true rfl⟩ (fun v w1 H locs hq hw => ?_)
  obtain ⟨rfl, rfl⟩ := hq
  have hw : lo_Wd X ([oX8 (d 0) (nmM M w i 0) (d 1) (d 2) (nmM M w i 3) (d 3) (nmM M w i 5) (d 4) (d 5) (d 6) (nmM M w i 9) (d 7) (nmM M w i 11) (nmM M w i 12) (nmM M w i 13) (nmM M w i 14) (nmM M w i 15) (nmM M w i 16) (nmM M w i 17) (nmM M w i 18) (nmM M w i 19) (nmM M w i 20) (nmM M w i 21) (nmM M w i 22) (nmM M w i 23) (nmM M w i 24) (nmM M w i 25) (nmM M w i 26) (nmM M w i 27) (nmM M w i 28), arI X (d 1) 122 (wPut (wPut (wPut w i 5 (nmM M w i 13)) i 1 (wOf (wPut w i 5 (nmM M w i 13)) i 1 + (nmM M w i 14))) i 6 (wOf (wPut (wPut w i 5 (nmM M w i 13)) i 1 (wOf (wPut w i 5 (nmM M w i 13)) i 1 + (nmM M w i 14))) i 6 + (nmM M w i 14)))]) A9 s9.heap H locs := hw
  refine W.eq (g2 := F0 m9 37 ls []) rfl ?_
  refine lv_aload_n Ex Eb dX8_skip_37 rfl (lv_at hl 1 rfl) ?_
  refine lv_iload_n Ex Eb dX8_skip_38 rfl (lv_at hl 2 rfl) ?_
  refine lv_bipush (v := iI 9) Ex Eb dX8_skip_39 rfl ?_
  refine lv_iconst (v := iI 1) Ex Eb dX8_skip_41 rfl ?_
  refine lo_callV (q0 := 0) (rest := []) E hK hw (kX8_grow l X d (nmM M w i) (wPut (wPut (wPut w i 5 (nmM M w i 13)) i 1 (wOf (wPut w i 5 (nmM M w i 13)) i 1 + (nmM M w i 14))) i 6 (wOf (wPut (wPut w i 5 (nmM M w i 13)) i 1 (wOf (wPut w i 5 (nmM M w i 13)) i 1 + (nmM M w i 14))) i 6 + (nmM M w i 14))) i 9 1 (by omega) (by omega)) (cwV 3 E.2.2.2.2 gX8_skip_X8_grow rfl rfl rfl (by decide +kernel) ⟨Nat.le_of_ble_eq_true rfl, Nat.le_of_ble_eq_true rfl⟩) rfl rfl [0, 1] rfl (by decide) hl.1 rfl rfl (Nat.le_of_ble_eq_true rfl) dX8_skip_42 ⟨Nat.le_of_ble_eq_true rfl, Nat.le_of_ble_eq_true rfl⟩ (fun v w1 H locs hq hw => ?_)
  obtain ⟨rfl, rfl⟩ := hq
  have hw : lo_Wd X ([oX8 (d 0) (nmM M w i 0) (d 1) (d 2) (nmM M w i 3) (d 3) (nmM M w i 5) (d 4) (d 5) (d 6) (nmM M w i 9) (d 7) (nmM M w i 11) (nmM M w i 12) (nmM M w i 13) (nmM M w i 14) (nmM M w i 15) (nmM M w i 16) (nmM M w i 17) (nmM M w i 18) (nmM M w i 19) (nmM M w i 20) (nmM M w i 21) (nmM M w i 22) (nmM M w i 23) (nmM M w i 24) (nmM M w i 25) (nmM M w i 26) (nmM M w i 27) (nmM M w i 28), arI X (d 1) 122 (wPut (wPut (wPut (wPut w i 5 (nmM M w i 13)) i 1 (wOf (wPut w i 5 (nmM M w i 13)) i 1 + (nmM M w i 14))) i 6 (wOf (wPut (wPut w i 5 (nmM M w i 13)) i 1 (wOf (wPut w i 5 (nmM M w i 13)) i 1 + (nmM M w i 14))) i 6 + (nmM M w i 14))) i 9 (wOf (wPut (wPut (wPut w i 5 (nmM M w i 13)) i 1 (wOf (wPut w i 5 (nmM M w i 13)) i 1 + (nmM M w i 14))) i 6 (wOf (wPut (wPut w i 5 (nmM M w i 13)) i 1 (wOf (wPut w i 5 (nmM M w i 13)) i 1 + (nmM M w i 14))) i 6 + (nmM M w i 14))) i 9 + 1))]) A9 s9.heap H locs := hw
  refine W.eq (g2 := F0 m9 45 ls []) rfl ?_
  have hw : lo_Wd X ([oX8 (d 0) (nmM M w i 0) (d 1) (d 2) (nmM M w i 3) (d 3) (nmM M w i 5) (d 4) (d 5) (d 6) (nmM M w i 9) (d 7) (nmM M w i 11) (nmM M w i 12) (nmM M w i 13) (nmM M w i 14) (nmM M w i 15) (nmM M w i 16) (nmM M w i 17) (nmM M w i 18) (nmM M w i 19) (nmM M w i 20) (nmM M w i 21) (nmM M w i 22) (nmM M w i 23) (nmM M w i 24) (nmM M w i 25) (nmM M w i 26) (nmM M w i 27) (nmM M w i 28), arI X (d 1) 122 (wDf w i)]) A9 s9.heap H locs := hw
  refine lv_aload_n Ex Eb dX8_skip_45 rfl (lv_at hl 1 rfl) ?_
  refine lv_iload_n Ex Eb dX8_skip_46 rfl (lv_at hl 2 rfl) ?_
  refine lo_callV (q0 := 0) (rest := []) E hK hw (kX8_calculate l X d (nmM M w i) (wDf w i) i (hi) (by omega) (by omega) (by omega) (by omega)) (cwV 1 E.2.2.2.2 gX8_skip_X8_calculate rfl rfl rfl (by decide +kernel) ⟨Nat.le_of_ble_eq_true rfl, Nat.le_of_ble_eq_true rfl⟩) rfl rfl [0, 1] rfl (by decide) hl.1 rfl rfl (Nat.le_of_ble_eq_true rfl) dX8_skip_47 ⟨Nat.le_of_ble_eq_true rfl, Nat.le_of_ble_eq_true rfl⟩ (fun v w1 H locs hq hw => ?_)
  obtain ⟨N1, q47_0, rfl, rfl⟩ := hq
  have hw : lo_Wd X ([oX8 (d 0) (N1 0) (d 1) (d 2) (N1 3) (d 3) (N1 5) (d 4) (d 5) (d 6) (N1 9) (d 7) (N1 11) (N1 12) (N1 13) (N1 14) (N1 15) (N1 16) (N1 17) (N1 18) (N1 19) (N1 20) (N1 21) (N1 22) (N1 23) (N1 24) (N1 25) (N1 26) (N1 27) (N1 28), arI X (d 1) 122 (wCalc (wDf w i) i)]) A9 s9.heap H locs := hw
  refine W.eq (g2 := F0 m9 50 ls []) rfl ?_
  refine lv_iload_n Ex Eb dX8_skip_50 rfl (lv_at hl 0 rfl) ?_
  exact lo_iret E hRt hLk hK hAe hw dX8_skip_51 rfl ⟨N1, ((sameW.tr (bgM_same _ _ _) (stM_same _ _ _ _)).tr q47_0), rfl, rfl⟩
set_option maxHeartbeats 4000000 in
set_option maxRecDepth 100000 in
theorem kX8_cannotSkip (l : Launch) (X : KX) (d : Nat → Nat) (M w : Nat → Int) (i : Int) (hi : 0 ≤ i ∧ i < 6) (hLI : LI (WL w i)) : CM l X yX8_cannotSkip wsX8_cannotSkip ({ frames := 3, cells := 0, slots := 0, locals := 66 }) [.ref (d 0), .int (iI i)] ([oX8 (d 0) (M 0) (d 1) (d 2) (M 3) (d 3) (M 5) (d 4) (d 5) (d 6) (M 9) (d 7) (M 11) (M 12) (M 13) (M 14) (M 15) (M 16) (M 17) (M 18) (M 19) (M 20) (M 21) (M 22) (M 23) (M 24) (M 25) (M 26) (M 27) (M 28), arI X (d 1) 122 w]) (fun v9 w9 => ∃ N : Nat → Int, ∃ z : Int, (sameW M N) ∧ ((z = 0 ∧ 0 < wOf w i 1 ∧ wOf w i 9 < 6 ∧ fW (wOf w i 1) (wOf w i 2) (wOf w i 5) ≤ 9999999) ∨ (z = 1 ∧ ¬ (0 < wOf w i 1 ∧ wOf w i 9 < 6 ∧ fW (wOf w i 1) (wOf w i 2) (wOf w i 5) ≤ 9999999))) ∧ v9 = some (.int (iI z)) ∧ w9 = [oX8 (d 0) (N 0) (d 1) (d 2) (N 3) (d 3) (N 5) (d 4) (d 5) (d 6) (N 9) (d 7) (N 11) (N 12) (N 13) (N 14) (N 15) (N 16) (N 17) (N 18) (N 19) (N 20) (N 21) (N 22) (N 23) (N 24) (N 25) (N 26) (N 27) (N 28), arI X (d 1) 122 w]) 0 0 := by
  refine lo_enter (cc := cX8_cannotSkip) (maxL := 2) (ret := (some .boolean)) (lv := [(0, .ref (d 0)), (1, .int (iI i))]) (by decide) rfl rfl (Nat.le_of_ble_eq_true rfl) ?_
  intro p9 e9 s9 m9 bl9 me9 c9 A9 ls hAe E hRt hLk hK hl hw
  have Ex := E.1
  have Eb := E.2.1
  have huRX8 : ∀ w ∈ u_ws RX8 TX8 29, w ∈ wsX8_cannotSkip := by decide +kernel
  have hf94 : (Cond.fieldLink RX8 94 "LoanScheduleModel" "walkInterest" "J").before _ s9 = true := E.2.2.2.2 _ (List.mem_of_getElem? (i := 1) rfl)
  have hc152 : (Cond.constantLong RX8 152 (9999999)).before _ s9 = true := E.2.2.2.2 _ (List.mem_of_getElem? (i := 2) rfl)
  obtain ⟨⟨hb0, hb1⟩, ⟨hr0, hr1⟩, ⟨hc0, hc1⟩, ⟨hm0, hm1⟩, ⟨hi0, hi1⟩, ⟨hk0, hk1⟩, hop, hcl⟩ := id hLI
  change 0 ≤ wOf w i 1 at hb0
  change wOf w i 1 ≤ 9999999 at hb1
  change 0 ≤ wOf w i 2 at hr0
  change wOf w i 2 ≤ 3000 at hr1
  change 0 ≤ wOf w i 5 at hc0
  change wOf w i 5 < 120000 at hc1
  change 0 ≤ wOf w i 3 at hm0
  change wOf w i 3 ≤ 120 at hm1
  change 0 ≤ wOf w i 4 at hi0
  change wOf w i 4 ≤ 10249999 at hi1
  change 0 ≤ wOf w i 9 at hk0
  change wOf w i 9 ≤ 6 ∧ wOf w i 0 + wOf w i 6 - wOf w i 7 = wOf w i 1 at hk1
  have hfi := fI_r hb0 hr0 hr1 hc0 hc1
  have hfw : fW (wOf w i 1) (wOf w i 2) (wOf w i 5) = wOf w i 1 + fI (wOf w i 1) (wOf w i 2) (wOf w i 5) := rfl
  have hn14 : nmM M w i 14 = fI (wOf w i 1) (wOf w i 2) (wOf w i 5) := rfl
  refine lv_aload_n Ex Eb dX8_cannotSkip_0 rfl (lv_at hl 0 rfl) ?_
  refine lv_iload_n Ex Eb dX8_cannotSkip_1 rfl (lv_at hl 1 rfl) ?_
  refine lo_callV (q0 := 0) (rest := []) E hK hw (kX8_isRunning l X d M w i (by omega) (by omega)) (cwV 1 E.2.2.2.2 gX8_cannotSkip_X8_isRunning rfl rfl rfl (by decide +kernel) ⟨Nat.le_of_ble_eq_true rfl, Nat.le_of_ble_eq_true rfl⟩) rfl rfl [0, 1] rfl (by decide) hl.1 rfl rfl (Nat.le_of_ble_eq_true rfl) dX8_cannotSkip_2 ⟨Nat.le_of_ble_eq_true rfl, Nat.le_of_ble_eq_true rfl⟩ (fun v w1 H locs hq hw => ?_)
  obtain ⟨r1, q2_0, rfl, rfl⟩ := hq
  have hw : lo_Wd X ([oX8 (d 0) (M 0) (d 1) (d 2) (M 3) (d 3) (M 5) (d 4) (d 5) (d 6) (M 9) (d 7) (M 11) (M 12) (M 13) (M 14) (M 15) (M 16) (M 17) (M 18) (M 19) (M 20) (M 21) (M 22) (M 23) (M 24) (M 25) (M 26) (M 27) (M 28), arI X (d 1) 122 w]) A9 s9.heap H locs := hw
  refine W.eq (g2 := F0 m9 5 ls [.int (iI r1)]) rfl ?_
  refine lo_if_eq (tgt := 20) E dX8_cannotSkip_5 (by decide) (by omega) (fun c2 => ?_) (fun c2 => ?_)
  · skip
    refine lv_iconst (v := iI 1) Ex Eb dX8_cannotSkip_20 rfl ?_
    exact lo_zret E hRt hLk hK hAe hw dX8_cannotSkip_21 rfl rfl ⟨M, 1, (by first | exact sameW.rf | exact (sameW.tr (bgM_same _ _ _) (stM_same _ _ _ _))), (by omega), rfl, rfl⟩
  · skip
    refine lv_aload_n Ex Eb dX8_cannotSkip_8 rfl (lv_at hl 0 rfl) ?_
    refine lv_iload_n Ex Eb dX8_cannotSkip_9 rfl (lv_at hl 1 rfl) ?_
    refine lv_bipush (v := iI 9) Ex Eb dX8_cannotSkip_10 rfl ?_
    refine lo_callV (q0 := 0) (rest := []) E hK hw (kX8_of l X d M w i 9 (by omega) (by omega)) (cwV 2 E.2.2.2.2 gX8_cannotSkip_X8_of rfl rfl rfl (by decide +kernel) ⟨Nat.le_of_ble_eq_true rfl, Nat.le_of_ble_eq_true rfl⟩) rfl rfl [0, 1] rfl (by decide) hl.1 rfl rfl (Nat.le_of_ble_eq_true rfl) dX8_cannotSkip_12 ⟨Nat.le_of_ble_eq_true rfl, Nat.le_of_ble_eq_true rfl⟩ (fun v w1 H locs hq hw => ?_)
    obtain ⟨rfl, rfl⟩ := hq
    have hw : lo_Wd X ([oX8 (d 0) (M 0) (d 1) (d 2) (M 3) (d 3) (M 5) (d 4) (d 5) (d 6) (M 9) (d 7) (M 11) (M 12) (M 13) (M 14) (M 15) (M 16) (M 17) (M 18) (M 19) (M 20) (M 21) (M 22) (M 23) (M 24) (M 25) (M 26) (M 27) (M 28), arI X (d 1) 122 w]) A9 s9.heap H locs := hw
    refine W.eq (g2 := F0 m9 15 ls [.int (iI (wOf w i 9))]) rfl ?_
    refine lv_bipush (v := iI 6) Ex Eb dX8_cannotSkip_15 rfl ?_
    refine lo_icmp_ne (tgt := 22) E dX8_cannotSkip_17 (by decide) (by omega) (by omega) (fun c3 => ?_) (fun c3 => ?_)
    · skip
      refine lv_aload_n Ex Eb dX8_cannotSkip_22 rfl (lv_at hl 0 rfl) ?_
      refine lv_iload_n Ex Eb dX8_cannotSkip_23 rfl (lv_at hl 1 rfl) ?_
      refine lo_callV (q0 := 0) (rest := []) E hK hw (kX8_nextMonth l X d M w i (hi) (hLI)) (cwV 1 E.2.2.2.2 gX8_cannotSkip_X8_nextMonth rfl rfl rfl (by decide +kernel) ⟨Nat.le_of_ble_eq_true rfl, Nat.le_of_ble_eq_true rfl⟩) rfl rfl [0, 1] rfl (by decide) hl.1 rfl rfl (Nat.le_of_ble_eq_true rfl) dX8_cannotSkip_24 ⟨Nat.le_of_ble_eq_true rfl, Nat.le_of_ble_eq_true rfl⟩ (fun v w1 H locs hq hw => ?_)
      obtain ⟨rfl, rfl⟩ := hq
      have hw : lo_Wd X ([oX8 (d 0) (nmM M w i 0) (d 1) (d 2) (nmM M w i 3) (d 3) (nmM M w i 5) (d 4) (d 5) (d 6) (nmM M w i 9) (d 7) (nmM M w i 11) (nmM M w i 12) (nmM M w i 13) (nmM M w i 14) (nmM M w i 15) (nmM M w i 16) (nmM M w i 17) (nmM M w i 18) (nmM M w i 19) (nmM M w i 20) (nmM M w i 21) (nmM M w i 22) (nmM M w i 23) (nmM M w i 24) (nmM M w i 25) (nmM M w i 26) (nmM M w i 27) (nmM M w i 28), arI X (d 1) 122 w]) A9 s9.heap H locs := hw
      refine W.eq (g2 := F0 m9 27 ls []) rfl ?_
      refine lv_aload_n Ex Eb dX8_cannotSkip_27 rfl (lv_at hl 0 rfl) ?_
      refine lv_iload_n Ex Eb dX8_cannotSkip_28 rfl (lv_at hl 1 rfl) ?_
      refine lv_iconst (v := iI 1) Ex Eb dX8_cannotSkip_29 rfl ?_
      refine lo_callV (q0 := 0) (rest := []) E hK hw (kX8_of l X d (nmM M w i) w i 1 (by omega) (by omega)) (cwV 2 E.2.2.2.2 gX8_cannotSkip_X8_of rfl rfl rfl (by decide +kernel) ⟨Nat.le_of_ble_eq_true rfl, Nat.le_of_ble_eq_true rfl⟩) rfl rfl [0, 1] rfl (by decide) hl.1 rfl rfl (Nat.le_of_ble_eq_true rfl) dX8_cannotSkip_30 ⟨Nat.le_of_ble_eq_true rfl, Nat.le_of_ble_eq_true rfl⟩ (fun v w1 H locs hq hw => ?_)
      obtain ⟨rfl, rfl⟩ := hq
      have hw : lo_Wd X ([oX8 (d 0) (nmM M w i 0) (d 1) (d 2) (nmM M w i 3) (d 3) (nmM M w i 5) (d 4) (d 5) (d 6) (nmM M w i 9) (d 7) (nmM M w i 11) (nmM M w i 12) (nmM M w i 13) (nmM M w i 14) (nmM M w i 15) (nmM M w i 16) (nmM M w i 17) (nmM M w i 18) (nmM M w i 19) (nmM M w i 20) (nmM M w i 21) (nmM M w i 22) (nmM M w i 23) (nmM M w i 24) (nmM M w i 25) (nmM M w i 26) (nmM M w i 27) (nmM M w i 28), arI X (d 1) 122 w]) A9 s9.heap H locs := hw
      refine W.eq (g2 := F0 m9 33 ls [.int (iI (wOf w i 1))]) rfl ?_
      refine lo_i2l E dX8_cannotSkip_33 (by omega) ?_
      refine lv_aload_n Ex Eb dX8_cannotSkip_34 rfl (lv_at hl 0 rfl) ?_
      refine lo_get E hK hw huRX8 14 hf94 rfl 0 rfl rfl (by decide) (v := .long (iL (nmM M w i 14))) rfl dX8_cannotSkip_35 ?_
      refine lo_ladd E dX8_cannotSkip_38 ?_
      refine lo_ldc2 (z := 9999999) E hc152 dX8_cannotSkip_39 rfl ?_
      refine lo_lcmp E dX8_cannotSkip_42 (by omega) (by omega) (fun zc4 rzc4 dzc4 => ?_)
      refine lo_if_le (tgt := 50) E dX8_cannotSkip_43 (by decide) (by omega) (fun c5 => ?_) (fun c5 => ?_)
      · skip
        refine lv_iconst (v := iI 0) Ex Eb dX8_cannotSkip_50 rfl ?_
        exact lo_zret E hRt hLk hK hAe hw dX8_cannotSkip_51 rfl rfl ⟨nmM M w i, 0, (by first | exact sameW.rf | exact (sameW.tr (bgM_same _ _ _) (stM_same _ _ _ _))), (by omega), rfl, rfl⟩
      · skip
        refine lv_iconst (v := iI 1) Ex Eb dX8_cannotSkip_46 rfl ?_
        refine lv_goto (tgt := 51) Ex Eb dX8_cannotSkip_47 (by decide) ?_
        exact lo_zret E hRt hLk hK hAe hw dX8_cannotSkip_51 rfl rfl ⟨nmM M w i, 1, (by first | exact sameW.rf | exact (sameW.tr (bgM_same _ _ _) (stM_same _ _ _ _))), (by omega), rfl, rfl⟩
    · skip
      refine lv_iconst (v := iI 1) Ex Eb dX8_cannotSkip_20 rfl ?_
      exact lo_zret E hRt hLk hK hAe hw dX8_cannotSkip_21 rfl rfl ⟨M, 1, (by first | exact sameW.rf | exact (sameW.tr (bgM_same _ _ _) (stM_same _ _ _ _))), (by omega), rfl, rfl⟩
set_option maxHeartbeats 4000000 in
set_option maxRecDepth 100000 in
theorem kX8_cannotExtend (l : Launch) (X : KX) (d : Nat → Nat) (M w : Nat → Int) (i a : Int) (hi : 0 ≤ i ∧ i < 6) (hLI : LI (WL w i)) (ha : 0 ≤ a ∧ a ≤ 1000) : CM l X yX8_cannotExtend wsX8_cannotExtend ({ frames := 2, cells := 0, slots := 0, locals := 43 }) [.ref (d 0), .int (iI i), .int (iI a)] ([oX8 (d 0) (M 0) (d 1) (d 2) (M 3) (d 3) (M 5) (d 4) (d 5) (d 6) (M 9) (d 7) (M 11) (M 12) (M 13) (M 14) (M 15) (M 16) (M 17) (M 18) (M 19) (M 20) (M 21) (M 22) (M 23) (M 24) (M 25) (M 26) (M 27) (M 28), arI X (d 1) 122 w]) (fun v9 w9 => ∃ z : Int, ((z = 0 ∧ 0 < wOf w i 1 ∧ wOf w i 3 + a ≤ 120) ∨ (z = 1 ∧ ¬ (0 < wOf w i 1 ∧ wOf w i 3 + a ≤ 120))) ∧ v9 = some (.int (iI z)) ∧ w9 = [oX8 (d 0) (M 0) (d 1) (d 2) (M 3) (d 3) (M 5) (d 4) (d 5) (d 6) (M 9) (d 7) (M 11) (M 12) (M 13) (M 14) (M 15) (M 16) (M 17) (M 18) (M 19) (M 20) (M 21) (M 22) (M 23) (M 24) (M 25) (M 26) (M 27) (M 28), arI X (d 1) 122 w]) 0 0 := by
  refine lo_enter (cc := cX8_cannotExtend) (maxL := 3) (ret := (some .boolean)) (lv := [(0, .ref (d 0)), (1, .int (iI i)), (2, .int (iI a))]) (by decide) rfl rfl (Nat.le_of_ble_eq_true rfl) ?_
  intro p9 e9 s9 m9 bl9 me9 c9 A9 ls hAe E hRt hLk hK hl hw
  have Ex := E.1
  have Eb := E.2.1
  obtain ⟨⟨hb0, hb1⟩, ⟨hr0, hr1⟩, ⟨hc0, hc1⟩, ⟨hm0, hm1⟩, ⟨hi0, hi1⟩, ⟨hk0, hk1⟩, hop, hcl⟩ := id hLI
  change 0 ≤ wOf w i 1 at hb0
  change wOf w i 1 ≤ 9999999 at hb1
  change 0 ≤ wOf w i 2 at hr0
  change wOf w i 2 ≤ 3000 at hr1
  change 0 ≤ wOf w i 5 at hc0
  change wOf w i 5 < 120000 at hc1
  change 0 ≤ wOf w i 3 at hm0
  change wOf w i 3 ≤ 120 at hm1
  change 0 ≤ wOf w i 4 at hi0
  change wOf w i 4 ≤ 10249999 at hi1
  change 0 ≤ wOf w i 9 at hk0
  change wOf w i 9 ≤ 6 ∧ wOf w i 0 + wOf w i 6 - wOf w i 7 = wOf w i 1 at hk1
  refine lv_aload_n Ex Eb dX8_cannotExtend_0 rfl (lv_at hl 0 rfl) ?_
  refine lv_iload_n Ex Eb dX8_cannotExtend_1 rfl (lv_at hl 1 rfl) ?_
  refine lo_callV (q0 := 0) (rest := []) E hK hw (kX8_isRunning l X d M w i (by omega) (by omega)) (cwV 1 E.2.2.2.2 gX8_cannotExtend_X8_isRunning rfl rfl rfl (by decide +kernel) ⟨Nat.le_of_ble_eq_true rfl, Nat.le_of_ble_eq_true rfl⟩) rfl rfl [0, 1] rfl (by decide) hl.1 rfl rfl (Nat.le_of_ble_eq_true rfl) dX8_cannotExtend_2 ⟨Nat.le_of_ble_eq_true rfl, Nat.le_of_ble_eq_true rfl⟩ (fun v w1 H locs hq hw => ?_)
  obtain ⟨r1, q2_0, rfl, rfl⟩ := hq
  have hw : lo_Wd X ([oX8 (d 0) (M 0) (d 1) (d 2) (M 3) (d 3) (M 5) (d 4) (d 5) (d 6) (M 9) (d 7) (M 11) (M 12) (M 13) (M 14) (M 15) (M 16) (M 17) (M 18) (M 19) (M 20) (M 21) (M 22) (M 23) (M 24) (M 25) (M 26) (M 27) (M 28), arI X (d 1) 122 w]) A9 s9.heap H locs := hw
  refine W.eq (g2 := F0 m9 5 ls [.int (iI r1)]) rfl ?_
  refine lo_if_eq (tgt := 21) E dX8_cannotExtend_5 (by decide) (by omega) (fun c2 => ?_) (fun c2 => ?_)
  · skip
    refine lv_iconst (v := iI 1) Ex Eb dX8_cannotExtend_21 rfl ?_
    refine lv_goto (tgt := 26) Ex Eb dX8_cannotExtend_22 (by decide) ?_
    exact lo_zret E hRt hLk hK hAe hw dX8_cannotExtend_26 rfl rfl ⟨1, (by omega), rfl, rfl⟩
  · skip
    refine lv_aload_n Ex Eb dX8_cannotExtend_8 rfl (lv_at hl 0 rfl) ?_
    refine lv_iload_n Ex Eb dX8_cannotExtend_9 rfl (lv_at hl 1 rfl) ?_
    refine lv_iconst (v := iI 3) Ex Eb dX8_cannotExtend_10 rfl ?_
    refine lo_callV (q0 := 0) (rest := []) E hK hw (kX8_of l X d M w i 3 (by omega) (by omega)) (cwV 2 E.2.2.2.2 gX8_cannotExtend_X8_of rfl rfl rfl (by decide +kernel) ⟨Nat.le_of_ble_eq_true rfl, Nat.le_of_ble_eq_true rfl⟩) rfl rfl [0, 1] rfl (by decide) hl.1 rfl rfl (Nat.le_of_ble_eq_true rfl) dX8_cannotExtend_11 ⟨Nat.le_of_ble_eq_true rfl, Nat.le_of_ble_eq_true rfl⟩ (fun v w1 H locs hq hw => ?_)
    obtain ⟨rfl, rfl⟩ := hq
    have hw : lo_Wd X ([oX8 (d 0) (M 0) (d 1) (d 2) (M 3) (d 3) (M 5) (d 4) (d 5) (d 6) (M 9) (d 7) (M 11) (M 12) (M 13) (M 14) (M 15) (M 16) (M 17) (M 18) (M 19) (M 20) (M 21) (M 22) (M 23) (M 24) (M 25) (M 26) (M 27) (M 28), arI X (d 1) 122 w]) A9 s9.heap H locs := hw
    refine W.eq (g2 := F0 m9 14 ls [.int (iI (wOf w i 3))]) rfl ?_
    refine lv_iload_n Ex Eb dX8_cannotExtend_14 rfl (lv_at hl 2 rfl) ?_
    refine lo_iadd E dX8_cannotExtend_15 ?_
    refine lv_bipush (v := iI 120) Ex Eb dX8_cannotExtend_16 rfl ?_
    refine lo_icmp_le (tgt := 25) E dX8_cannotExtend_18 (by decide) (by omega) (by omega) (fun c3 => ?_) (fun c3 => ?_)
    · skip
      refine lv_iconst (v := iI 0) Ex Eb dX8_cannotExtend_25 rfl ?_
      exact lo_zret E hRt hLk hK hAe hw dX8_cannotExtend_26 rfl rfl ⟨0, (by omega), rfl, rfl⟩
    · skip
      refine lv_iconst (v := iI 1) Ex Eb dX8_cannotExtend_21 rfl ?_
      refine lv_goto (tgt := 26) Ex Eb dX8_cannotExtend_22 (by decide) ?_
      exact lo_zret E hRt hLk hK hAe hw dX8_cannotExtend_26 rfl rfl ⟨1, (by omega), rfl, rfl⟩
set_option maxHeartbeats 4000000 in
set_option maxRecDepth 100000 in
theorem kX8_cannotPayExtra (l : Launch) (X : KX) (d : Nat → Nat) (M w : Nat → Int) (i a : Int) (hi : 0 ≤ i ∧ i < 6) (hLI : LI (WL w i)) (ha : i32 a) : CM l X yX8_cannotPayExtra wsX8_cannotPayExtra ({ frames := 2, cells := 0, slots := 0, locals := 43 }) [.ref (d 0), .int (iI i), .int (iI a)] ([oX8 (d 0) (M 0) (d 1) (d 2) (M 3) (d 3) (M 5) (d 4) (d 5) (d 6) (M 9) (d 7) (M 11) (M 12) (M 13) (M 14) (M 15) (M 16) (M 17) (M 18) (M 19) (M 20) (M 21) (M 22) (M 23) (M 24) (M 25) (M 26) (M 27) (M 28), arI X (d 1) 122 w]) (fun v9 w9 => ∃ z : Int, ((z = 0 ∧ 0 < wOf w i 1 ∧ a ≤ wOf w i 1) ∨ (z = 1 ∧ ¬ (0 < wOf w i 1 ∧ a ≤ wOf w i 1))) ∧ v9 = some (.int (iI z)) ∧ w9 = [oX8 (d 0) (M 0) (d 1) (d 2) (M 3) (d 3) (M 5) (d 4) (d 5) (d 6) (M 9) (d 7) (M 11) (M 12) (M 13) (M 14) (M 15) (M 16) (M 17) (M 18) (M 19) (M 20) (M 21) (M 22) (M 23) (M 24) (M 25) (M 26) (M 27) (M 28), arI X (d 1) 122 w]) 0 0 := by
  refine lo_enter (cc := cX8_cannotPayExtra) (maxL := 3) (ret := (some .boolean)) (lv := [(0, .ref (d 0)), (1, .int (iI i)), (2, .int (iI a))]) (by decide) rfl rfl (Nat.le_of_ble_eq_true rfl) ?_
  intro p9 e9 s9 m9 bl9 me9 c9 A9 ls hAe E hRt hLk hK hl hw
  have Ex := E.1
  have Eb := E.2.1
  obtain ⟨⟨hb0, hb1⟩, ⟨hr0, hr1⟩, ⟨hc0, hc1⟩, ⟨hm0, hm1⟩, ⟨hi0, hi1⟩, ⟨hk0, hk1⟩, hop, hcl⟩ := id hLI
  change 0 ≤ wOf w i 1 at hb0
  change wOf w i 1 ≤ 9999999 at hb1
  change 0 ≤ wOf w i 2 at hr0
  change wOf w i 2 ≤ 3000 at hr1
  change 0 ≤ wOf w i 5 at hc0
  change wOf w i 5 < 120000 at hc1
  change 0 ≤ wOf w i 3 at hm0
  change wOf w i 3 ≤ 120 at hm1
  change 0 ≤ wOf w i 4 at hi0
  change wOf w i 4 ≤ 10249999 at hi1
  change 0 ≤ wOf w i 9 at hk0
  change wOf w i 9 ≤ 6 ∧ wOf w i 0 + wOf w i 6 - wOf w i 7 = wOf w i 1 at hk1
  refine lv_aload_n Ex Eb dX8_cannotPayExtra_0 rfl (lv_at hl 0 rfl) ?_
  refine lv_iload_n Ex Eb dX8_cannotPayExtra_1 rfl (lv_at hl 1 rfl) ?_
  refine lo_callV (q0 := 0) (rest := []) E hK hw (kX8_isRunning l X d M w i (by omega) (by omega)) (cwV 1 E.2.2.2.2 gX8_cannotPayExtra_X8_isRunning rfl rfl rfl (by decide +kernel) ⟨Nat.le_of_ble_eq_true rfl, Nat.le_of_ble_eq_true rfl⟩) rfl rfl [0, 1] rfl (by decide) hl.1 rfl rfl (Nat.le_of_ble_eq_true rfl) dX8_cannotPayExtra_2 ⟨Nat.le_of_ble_eq_true rfl, Nat.le_of_ble_eq_true rfl⟩ (fun v w1 H locs hq hw => ?_)
  obtain ⟨r1, q2_0, rfl, rfl⟩ := hq
  have hw : lo_Wd X ([oX8 (d 0) (M 0) (d 1) (d 2) (M 3) (d 3) (M 5) (d 4) (d 5) (d 6) (M 9) (d 7) (M 11) (M 12) (M 13) (M 14) (M 15) (M 16) (M 17) (M 18) (M 19) (M 20) (M 21) (M 22) (M 23) (M 24) (M 25) (M 26) (M 27) (M 28), arI X (d 1) 122 w]) A9 s9.heap H locs := hw
  refine W.eq (g2 := F0 m9 5 ls [.int (iI r1)]) rfl ?_
  refine lo_if_eq (tgt := 18) E dX8_cannotPayExtra_5 (by decide) (by omega) (fun c2 => ?_) (fun c2 => ?_)
  · skip
    refine lv_iconst (v := iI 1) Ex Eb dX8_cannotPayExtra_18 rfl ?_
    refine lv_goto (tgt := 23) Ex Eb dX8_cannotPayExtra_19 (by decide) ?_
    exact lo_zret E hRt hLk hK hAe hw dX8_cannotPayExtra_23 rfl rfl ⟨1, (by omega), rfl, rfl⟩
  · skip
    refine lv_iload_n Ex Eb dX8_cannotPayExtra_8 rfl (lv_at hl 2 rfl) ?_
    refine lv_aload_n Ex Eb dX8_cannotPayExtra_9 rfl (lv_at hl 0 rfl) ?_
    refine lv_iload_n Ex Eb dX8_cannotPayExtra_10 rfl (lv_at hl 1 rfl) ?_
    refine lv_iconst (v := iI 1) Ex Eb dX8_cannotPayExtra_11 rfl ?_
    refine lo_callV (q0 := 0) (rest := [.int (iI a)]) E hK hw (kX8_of l X d M w i 1 (by omega) (by omega)) (cwV 2 E.2.2.2.2 gX8_cannotPayExtra_X8_of rfl rfl rfl (by decide +kernel) ⟨Nat.le_of_ble_eq_true rfl, Nat.le_of_ble_eq_true rfl⟩) rfl rfl [0, 1] rfl (by decide) hl.1 rfl rfl (Nat.le_of_ble_eq_true rfl) dX8_cannotPayExtra_12 ⟨Nat.le_of_ble_eq_true rfl, Nat.le_of_ble_eq_true rfl⟩ (fun v w1 H locs hq hw => ?_)
    obtain ⟨rfl, rfl⟩ := hq
    have hw : lo_Wd X ([oX8 (d 0) (M 0) (d 1) (d 2) (M 3) (d 3) (M 5) (d 4) (d 5) (d 6) (M 9) (d 7) (M 11) (M 12) (M 13) (M 14) (M 15) (M 16) (M 17) (M 18) (M 19) (M 20) (M 21) (M 22) (M 23) (M 24) (M 25) (M 26) (M 27) (M 28), arI X (d 1) 122 w]) A9 s9.heap H locs := hw
    refine W.eq (g2 := F0 m9 15 ls [.int (iI (wOf w i 1)), .int (iI a)]) rfl ?_
    refine lo_icmp_le (tgt := 22) E dX8_cannotPayExtra_15 (by decide) (by omega) (by omega) (fun c3 => ?_) (fun c3 => ?_)
    · skip
      refine lv_iconst (v := iI 0) Ex Eb dX8_cannotPayExtra_22 rfl ?_
      exact lo_zret E hRt hLk hK hAe hw dX8_cannotPayExtra_23 rfl rfl ⟨0, (by omega), rfl, rfl⟩
    · skip
      refine lv_iconst (v := iI 1) Ex Eb dX8_cannotPayExtra_18 rfl ?_
      refine lv_goto (tgt := 23) Ex Eb dX8_cannotPayExtra_19 (by decide) ?_
      exact lo_zret E hRt hLk hK hAe hw dX8_cannotPayExtra_23 rfl rfl ⟨1, (by omega), rfl, rfl⟩
set_option maxHeartbeats 4000000 in
set_option maxRecDepth 100000 in
theorem kX8_setRate (l : Launch) (X : KX) (d : Nat → Nat) (M w : Nat → Int) (i r : Int) (hi : 0 ≤ i ∧ i < 6) (hLI : LI (WL w i)) (ho : 0 < wOf w i 1) (hr9 : 0 ≤ r ∧ r ≤ 3000) : CM l X yX8_setRate wsX8_setRate ({ frames := 5, cells := 0, slots := 0, locals := 128 }) [.ref (d 0), .int (iI i), .int (iI r)] ([oX8 (d 0) (M 0) (d 1) (d 2) (M 3) (d 3) (M 5) (d 4) (d 5) (d 6) (M 9) (d 7) (M 11) (M 12) (M 13) (M 14) (M 15) (M 16) (M 17) (M 18) (M 19) (M 20) (M 21) (M 22) (M 23) (M 24) (M 25) (M 26) (M 27) (M 28), arI X (d 1) 122 w]) (fun v9 w9 => ∃ N : Nat → Int, (sameW M N) ∧ v9 = none ∧ w9 = [oX8 (d 0) (N 0) (d 1) (d 2) (N 3) (d 3) (N 5) (d 4) (d 5) (d 6) (N 9) (d 7) (N 11) (N 12) (N 13) (N 14) (N 15) (N 16) (N 17) (N 18) (N 19) (N 20) (N 21) (N 22) (N 23) (N 24) (N 25) (N 26) (N 27) (N 28), arI X (d 1) 122 (wRate w i r)]) 0 0 := by
  refine lo_enter (cc := cX8_setRate) (maxL := 3) (ret := none) (lv := [(0, .ref (d 0)), (1, .int (iI i)), (2, .int (iI r))]) (by decide) rfl rfl (Nat.le_of_ble_eq_true rfl) ?_
  intro p9 e9 s9 m9 bl9 me9 c9 A9 ls hAe E hRt hLk hK hl hw
  have Ex := E.1
  have Eb := E.2.1
  obtain ⟨⟨hb0, hb1⟩, ⟨hr0, hr1⟩, ⟨hc0, hc1⟩, ⟨hm0, hm1⟩, ⟨hi0, hi1⟩, ⟨hk0, hk1⟩, hop, hcl⟩ := id hLI
  change 0 ≤ wOf w i 1 at hb0
  change wOf w i 1 ≤ 9999999 at hb1
  change 0 ≤ wOf w i 2 at hr0
  change wOf w i 2 ≤ 3000 at hr1
  change 0 ≤ wOf w i 5 at hc0
  change wOf w i 5 < 120000 at hc1
  change 0 ≤ wOf w i 3 at hm0
  change wOf w i 3 ≤ 120 at hm1
  change 0 ≤ wOf w i 4 at hi0
  change wOf w i 4 ≤ 10249999 at hi1
  change 0 ≤ wOf w i 9 at hk0
  change wOf w i 9 ≤ 6 ∧ wOf w i 0 + wOf w i 6 - wOf w i 7 = wOf w i 1 at hk1
  have hop3 := (hop ho).1
  change 1 ≤ wOf w i 3 at hop3
  have hq2_1 := wOf_n (w := w) (i := i) (k := 2) (v := r) (j := i) (q := 1) hi.1 (by omega) (by omega) hi.1 (by omega) (by omega) (Or.inr (by omega))
  have hq2_3 := wOf_n (w := w) (i := i) (k := 2) (v := r) (j := i) (q := 3) hi.1 (by omega) (by omega) hi.1 (by omega) (by omega) (Or.inr (by omega))
  have hq2_5 := wOf_n (w := w) (i := i) (k := 2) (v := r) (j := i) (q := 5) hi.1 (by omega) (by omega) hi.1 (by omega) (by omega) (Or.inr (by omega))
  have hq2 : wOf (wPut w i 2 r) i 2 = r := wOf_s
  refine lv_aload_n Ex Eb dX8_setRate_0 rfl (lv_at hl 0 rfl) ?_
  refine lv_iload_n Ex Eb dX8_setRate_1 rfl (lv_at hl 1 rfl) ?_
  refine lv_iconst (v := iI 2) Ex Eb dX8_setRate_2 rfl ?_
  refine lv_iload_n Ex Eb dX8_setRate_3 rfl (lv_at hl 2 rfl) ?_
  refine lo_callV (q0 := 0) (rest := []) E hK hw (kX8_put l X d M w i 2 r (by omega) (by omega)) (cwV 3 E.2.2.2.2 gX8_setRate_X8_put rfl rfl rfl (by decide +kernel) ⟨Nat.le_of_ble_eq_true rfl, Nat.le_of_ble_eq_true rfl⟩) rfl rfl [0, 1] rfl (by decide) hl.1 rfl rfl (Nat.le_of_ble_eq_true rfl) dX8_setRate_4 ⟨Nat.le_of_ble_eq_true rfl, Nat.le_of_ble_eq_true rfl⟩ (fun v w1 H locs hq hw => ?_)
  obtain ⟨rfl, rfl⟩ := hq
  have hw : lo_Wd X ([oX8 (d 0) (M 0) (d 1) (d 2) (M 3) (d 3) (M 5) (d 4) (d 5) (d 6) (M 9) (d 7) (M 11) (M 12) (M 13) (M 14) (M 15) (M 16) (M 17) (M 18) (M 19) (M 20) (M 21) (M 22) (M 23) (M 24) (M 25) (M 26) (M 27) (M 28), arI X (d 1) 122 (wPut w i 2 r)]) A9 s9.heap H locs := hw
  refine W.eq (g2 := F0 m9 7 ls []) rfl ?_
  refine lv_aload_n Ex Eb dX8_setRate_7 rfl (lv_at hl 0 rfl) ?_
  refine lv_iload_n Ex Eb dX8_setRate_8 rfl (lv_at hl 1 rfl) ?_
  refine lo_callV (q0 := 0) (rest := []) E hK hw (kX8_calculate l X d M (wPut w i 2 r) i (hi) (by omega) (by omega) (by omega) (by omega)) (cwV 1 E.2.2.2.2 gX8_setRate_X8_calculate rfl rfl rfl (by decide +kernel) ⟨Nat.le_of_ble_eq_true rfl, Nat.le_of_ble_eq_true rfl⟩) rfl rfl [0, 1] rfl (by decide) hl.1 rfl rfl (Nat.le_of_ble_eq_true rfl) dX8_setRate_9 ⟨Nat.le_of_ble_eq_true rfl, Nat.le_of_ble_eq_true rfl⟩ (fun v w1 H locs hq hw => ?_)
  obtain ⟨N1, q9_0, rfl, rfl⟩ := hq
  have hw : lo_Wd X ([oX8 (d 0) (N1 0) (d 1) (d 2) (N1 3) (d 3) (N1 5) (d 4) (d 5) (d 6) (N1 9) (d 7) (N1 11) (N1 12) (N1 13) (N1 14) (N1 15) (N1 16) (N1 17) (N1 18) (N1 19) (N1 20) (N1 21) (N1 22) (N1 23) (N1 24) (N1 25) (N1 26) (N1 27) (N1 28), arI X (d 1) 122 (wCalc (wPut w i 2 r) i)]) A9 s9.heap H locs := hw
  refine W.eq (g2 := F0 m9 12 ls []) rfl ?_
  exact lo_vret E hRt hLk hK hAe hw dX8_setRate_12 rfl ⟨N1, (q9_0), rfl, rfl⟩
set_option maxHeartbeats 4000000 in
set_option maxRecDepth 100000 in
theorem kX8_extend (l : Launch) (X : KX) (d : Nat → Nat) (M w : Nat → Int) (i a : Int) (hi : 0 ≤ i ∧ i < 6) (hLI : LI (WL w i)) (ho : 0 < wOf w i 1) (ha : 0 ≤ a ∧ wOf w i 3 + a ≤ 120) : CM l X yX8_extend wsX8_extend ({ frames := 5, cells := 0, slots := 0, locals := 128 }) [.ref (d 0), .int (iI i), .int (iI a)] ([oX8 (d 0) (M 0) (d 1) (d 2) (M 3) (d 3) (M 5) (d 4) (d 5) (d 6) (M 9) (d 7) (M 11) (M 12) (M 13) (M 14) (M 15) (M 16) (M 17) (M 18) (M 19) (M 20) (M 21) (M 22) (M 23) (M 24) (M 25) (M 26) (M 27) (M 28), arI X (d 1) 122 w]) (fun v9 w9 => ∃ N : Nat → Int, (sameW M N) ∧ v9 = none ∧ w9 = [oX8 (d 0) (N 0) (d 1) (d 2) (N 3) (d 3) (N 5) (d 4) (d 5) (d 6) (N 9) (d 7) (N 11) (N 12) (N 13) (N 14) (N 15) (N 16) (N 17) (N 18) (N 19) (N 20) (N 21) (N 22) (N 23) (N 24) (N 25) (N 26) (N 27) (N 28), arI X (d 1) 122 (wLong w i a)]) 0 0 := by
  refine lo_enter (cc := cX8_extend) (maxL := 3) (ret := none) (lv := [(0, .ref (d 0)), (1, .int (iI i)), (2, .int (iI a))]) (by decide) rfl rfl (Nat.le_of_ble_eq_true rfl) ?_
  intro p9 e9 s9 m9 bl9 me9 c9 A9 ls hAe E hRt hLk hK hl hw
  have Ex := E.1
  have Eb := E.2.1
  obtain ⟨⟨hb0, hb1⟩, ⟨hr0, hr1⟩, ⟨hc0, hc1⟩, ⟨hm0, hm1⟩, ⟨hi0, hi1⟩, ⟨hk0, hk1⟩, hop, hcl⟩ := id hLI
  change 0 ≤ wOf w i 1 at hb0
  change wOf w i 1 ≤ 9999999 at hb1
  change 0 ≤ wOf w i 2 at hr0
  change wOf w i 2 ≤ 3000 at hr1
  change 0 ≤ wOf w i 5 at hc0
  change wOf w i 5 < 120000 at hc1
  change 0 ≤ wOf w i 3 at hm0
  change wOf w i 3 ≤ 120 at hm1
  change 0 ≤ wOf w i 4 at hi0
  change wOf w i 4 ≤ 10249999 at hi1
  change 0 ≤ wOf w i 9 at hk0
  change wOf w i 9 ≤ 6 ∧ wOf w i 0 + wOf w i 6 - wOf w i 7 = wOf w i 1 at hk1
  have hop3 := (hop ho).1
  change 1 ≤ wOf w i 3 at hop3
  have hq3_1 := wOf_n (w := w) (i := i) (k := 3) (v := wOf w i 3 + a) (j := i) (q := 1) hi.1 (by omega) (by omega) hi.1 (by omega) (by omega) (Or.inr (by omega))
  have hq3_2 := wOf_n (w := w) (i := i) (k := 3) (v := wOf w i 3 + a) (j := i) (q := 2) hi.1 (by omega) (by omega) hi.1 (by omega) (by omega) (Or.inr (by omega))
  have hq3_5 := wOf_n (w := w) (i := i) (k := 3) (v := wOf w i 3 + a) (j := i) (q := 5) hi.1 (by omega) (by omega) hi.1 (by omega) (by omega) (Or.inr (by omega))
  have hq3 : wOf (wPut w i 3 (wOf w i 3 + a)) i 3 = wOf w i 3 + a := wOf_s
  refine lv_aload_n Ex Eb dX8_extend_0 rfl (lv_at hl 0 rfl) ?_
  refine lv_iload_n Ex Eb dX8_extend_1 rfl (lv_at hl 1 rfl) ?_
  refine lv_iconst (v := iI 3) Ex Eb dX8_extend_2 rfl ?_
  refine lv_iload_n Ex Eb dX8_extend_3 rfl (lv_at hl 2 rfl) ?_
  refine lo_callV (q0 := 0) (rest := []) E hK hw (kX8_grow l X d M w i 3 a (by omega) (by omega)) (cwV 3 E.2.2.2.2 gX8_extend_X8_grow rfl rfl rfl (by decide +kernel) ⟨Nat.le_of_ble_eq_true rfl, Nat.le_of_ble_eq_true rfl⟩) rfl rfl [0, 1] rfl (by decide) hl.1 rfl rfl (Nat.le_of_ble_eq_true rfl) dX8_extend_4 ⟨Nat.le_of_ble_eq_true rfl, Nat.le_of_ble_eq_true rfl⟩ (fun v w1 H locs hq hw => ?_)
  obtain ⟨rfl, rfl⟩ := hq
  have hw : lo_Wd X ([oX8 (d 0) (M 0) (d 1) (d 2) (M 3) (d 3) (M 5) (d 4) (d 5) (d 6) (M 9) (d 7) (M 11) (M 12) (M 13) (M 14) (M 15) (M 16) (M 17) (M 18) (M 19) (M 20) (M 21) (M 22) (M 23) (M 24) (M 25) (M 26) (M 27) (M 28), arI X (d 1) 122 (wPut w i 3 (wOf w i 3 + a))]) A9 s9.heap H locs := hw
  refine W.eq (g2 := F0 m9 7 ls []) rfl ?_
  refine lv_aload_n Ex Eb dX8_extend_7 rfl (lv_at hl 0 rfl) ?_
  refine lv_iload_n Ex Eb dX8_extend_8 rfl (lv_at hl 1 rfl) ?_
  refine lo_callV (q0 := 0) (rest := []) E hK hw (kX8_calculate l X d M (wPut w i 3 (wOf w i 3 + a)) i (hi) (by omega) (by omega) (by omega) (by omega)) (cwV 1 E.2.2.2.2 gX8_extend_X8_calculate rfl rfl rfl (by decide +kernel) ⟨Nat.le_of_ble_eq_true rfl, Nat.le_of_ble_eq_true rfl⟩) rfl rfl [0, 1] rfl (by decide) hl.1 rfl rfl (Nat.le_of_ble_eq_true rfl) dX8_extend_9 ⟨Nat.le_of_ble_eq_true rfl, Nat.le_of_ble_eq_true rfl⟩ (fun v w1 H locs hq hw => ?_)
  obtain ⟨N1, q9_0, rfl, rfl⟩ := hq
  have hw : lo_Wd X ([oX8 (d 0) (N1 0) (d 1) (d 2) (N1 3) (d 3) (N1 5) (d 4) (d 5) (d 6) (N1 9) (d 7) (N1 11) (N1 12) (N1 13) (N1 14) (N1 15) (N1 16) (N1 17) (N1 18) (N1 19) (N1 20) (N1 21) (N1 22) (N1 23) (N1 24) (N1 25) (N1 26) (N1 27) (N1 28), arI X (d 1) 122 (wCalc (wPut w i 3 (wOf w i 3 + a)) i)]) A9 s9.heap H locs := hw
  refine W.eq (g2 := F0 m9 12 ls []) rfl ?_
  exact lo_vret E hRt hLk hK hAe hw dX8_extend_12 rfl ⟨N1, (q9_0), rfl, rfl⟩
set_option maxHeartbeats 4000000 in
set_option maxRecDepth 100000 in
theorem kX8_setTerms (l : Launch) (X : KX) (d : Nat → Nat) (M w : Nat → Int) (i r a : Int) (hi : 0 ≤ i ∧ i < 6) (hLI : LI (WL w i)) (ho : 0 < wOf w i 1) (hr9 : 0 ≤ r ∧ r ≤ 3000) (ha : 1 ≤ a ∧ a ≤ 120) : CM l X yX8_setTerms wsX8_setTerms ({ frames := 5, cells := 0, slots := 0, locals := 128 }) [.ref (d 0), .int (iI i), .int (iI r), .int (iI a)] ([oX8 (d 0) (M 0) (d 1) (d 2) (M 3) (d 3) (M 5) (d 4) (d 5) (d 6) (M 9) (d 7) (M 11) (M 12) (M 13) (M 14) (M 15) (M 16) (M 17) (M 18) (M 19) (M 20) (M 21) (M 22) (M 23) (M 24) (M 25) (M 26) (M 27) (M 28), arI X (d 1) 122 w]) (fun v9 w9 => ∃ N : Nat → Int, (sameW M N) ∧ v9 = none ∧ w9 = [oX8 (d 0) (N 0) (d 1) (d 2) (N 3) (d 3) (N 5) (d 4) (d 5) (d 6) (N 9) (d 7) (N 11) (N 12) (N 13) (N 14) (N 15) (N 16) (N 17) (N 18) (N 19) (N 20) (N 21) (N 22) (N 23) (N 24) (N 25) (N 26) (N 27) (N 28), arI X (d 1) 122 (wSet w i r a)]) 0 0 := by
  refine lo_enter (cc := cX8_setTerms) (maxL := 4) (ret := none) (lv := [(0, .ref (d 0)), (1, .int (iI i)), (2, .int (iI r)), (3, .int (iI a))]) (by decide) rfl rfl (Nat.le_of_ble_eq_true rfl) ?_
  intro p9 e9 s9 m9 bl9 me9 c9 A9 ls hAe E hRt hLk hK hl hw
  have Ex := E.1
  have Eb := E.2.1
  obtain ⟨⟨hb0, hb1⟩, ⟨hr0, hr1⟩, ⟨hc0, hc1⟩, ⟨hm0, hm1⟩, ⟨hi0, hi1⟩, ⟨hk0, hk1⟩, hop, hcl⟩ := id hLI
  change 0 ≤ wOf w i 1 at hb0
  change wOf w i 1 ≤ 9999999 at hb1
  change 0 ≤ wOf w i 2 at hr0
  change wOf w i 2 ≤ 3000 at hr1
  change 0 ≤ wOf w i 5 at hc0
  change wOf w i 5 < 120000 at hc1
  change 0 ≤ wOf w i 3 at hm0
  change wOf w i 3 ≤ 120 at hm1
  change 0 ≤ wOf w i 4 at hi0
  change wOf w i 4 ≤ 10249999 at hi1
  change 0 ≤ wOf w i 9 at hk0
  change wOf w i 9 ≤ 6 ∧ wOf w i 0 + wOf w i 6 - wOf w i 7 = wOf w i 1 at hk1
  have hop3 := (hop ho).1
  have hq2_1 := wOf_n (w := w) (i := i) (k := 2) (v := r) (j := i) (q := 1) hi.1 (by omega) (by omega) hi.1 (by omega) (by omega) (Or.inr (by omega))
  have hq2_5 := wOf_n (w := w) (i := i) (k := 2) (v := r) (j := i) (q := 5) hi.1 (by omega) (by omega) hi.1 (by omega) (by omega) (Or.inr (by omega))
  have hq2 : wOf (wPut w i 2 r) i 2 = r := wOf_s
  have ht1 := wOf_n (w := wPut w i 2 r) (i := i) (k := 3) (v := a) (j := i) (q := 1) hi.1 (by omega) (by omega) hi.1 (by omega) (by omega) (Or.inr (by omega))
  have ht2 := wOf_n (w := wPut w i 2 r) (i := i) (k := 3) (v := a) (j := i) (q := 2) hi.1 (by omega) (by omega) hi.1 (by omega) (by omega) (Or.inr (by omega))
  have ht5 := wOf_n (w := wPut w i 2 r) (i := i) (k := 3) (v := a) (j := i) (q := 5) hi.1 (by omega) (by omega) hi.1 (by omega) (by omega) (Or.inr (by omega))
  have ht3 : wOf (wPut (wPut w i 2 r) i 3 a) i 3 = a := wOf_s
  refine lv_aload_n Ex Eb dX8_setTerms_0 rfl (lv_at hl 0 rfl) ?_
  refine lv_iload_n Ex Eb dX8_setTerms_1 rfl (lv_at hl 1 rfl) ?_
  refine lv_iconst (v := iI 2) Ex Eb dX8_setTerms_2 rfl ?_
  refine lv_iload_n Ex Eb dX8_setTerms_3 rfl (lv_at hl 2 rfl) ?_
  refine lo_callV (q0 := 0) (rest := []) E hK hw (kX8_put l X d M w i 2 r (by omega) (by omega)) (cwV 3 E.2.2.2.2 gX8_setTerms_X8_put rfl rfl rfl (by decide +kernel) ⟨Nat.le_of_ble_eq_true rfl, Nat.le_of_ble_eq_true rfl⟩) rfl rfl [0, 1] rfl (by decide) hl.1 rfl rfl (Nat.le_of_ble_eq_true rfl) dX8_setTerms_4 ⟨Nat.le_of_ble_eq_true rfl, Nat.le_of_ble_eq_true rfl⟩ (fun v w1 H locs hq hw => ?_)
  obtain ⟨rfl, rfl⟩ := hq
  have hw : lo_Wd X ([oX8 (d 0) (M 0) (d 1) (d 2) (M 3) (d 3) (M 5) (d 4) (d 5) (d 6) (M 9) (d 7) (M 11) (M 12) (M 13) (M 14) (M 15) (M 16) (M 17) (M 18) (M 19) (M 20) (M 21) (M 22) (M 23) (M 24) (M 25) (M 26) (M 27) (M 28), arI X (d 1) 122 (wPut w i 2 r)]) A9 s9.heap H locs := hw
  refine W.eq (g2 := F0 m9 7 ls []) rfl ?_
  refine lv_aload_n Ex Eb dX8_setTerms_7 rfl (lv_at hl 0 rfl) ?_
  refine lv_iload_n Ex Eb dX8_setTerms_8 rfl (lv_at hl 1 rfl) ?_
  refine lv_iconst (v := iI 3) Ex Eb dX8_setTerms_9 rfl ?_
  refine lv_iload_n Ex Eb dX8_setTerms_10 rfl (lv_at hl 3 rfl) ?_
  refine lo_callV (q0 := 0) (rest := []) E hK hw (kX8_put l X d M (wPut w i 2 r) i 3 a (by omega) (by omega)) (cwV 3 E.2.2.2.2 gX8_setTerms_X8_put rfl rfl rfl (by decide +kernel) ⟨Nat.le_of_ble_eq_true rfl, Nat.le_of_ble_eq_true rfl⟩) rfl rfl [0, 1] rfl (by decide) hl.1 rfl rfl (Nat.le_of_ble_eq_true rfl) dX8_setTerms_11 ⟨Nat.le_of_ble_eq_true rfl, Nat.le_of_ble_eq_true rfl⟩ (fun v w1 H locs hq hw => ?_)
  obtain ⟨rfl, rfl⟩ := hq
  have hw : lo_Wd X ([oX8 (d 0) (M 0) (d 1) (d 2) (M 3) (d 3) (M 5) (d 4) (d 5) (d 6) (M 9) (d 7) (M 11) (M 12) (M 13) (M 14) (M 15) (M 16) (M 17) (M 18) (M 19) (M 20) (M 21) (M 22) (M 23) (M 24) (M 25) (M 26) (M 27) (M 28), arI X (d 1) 122 (wPut (wPut w i 2 r) i 3 a)]) A9 s9.heap H locs := hw
  refine W.eq (g2 := F0 m9 14 ls []) rfl ?_
  refine lv_aload_n Ex Eb dX8_setTerms_14 rfl (lv_at hl 0 rfl) ?_
  refine lv_iload_n Ex Eb dX8_setTerms_15 rfl (lv_at hl 1 rfl) ?_
  refine lo_callV (q0 := 0) (rest := []) E hK hw (kX8_calculate l X d M (wPut (wPut w i 2 r) i 3 a) i (hi) (by omega) (by omega) (by omega) (by omega)) (cwV 1 E.2.2.2.2 gX8_setTerms_X8_calculate rfl rfl rfl (by decide +kernel) ⟨Nat.le_of_ble_eq_true rfl, Nat.le_of_ble_eq_true rfl⟩) rfl rfl [0, 1] rfl (by decide) hl.1 rfl rfl (Nat.le_of_ble_eq_true rfl) dX8_setTerms_16 ⟨Nat.le_of_ble_eq_true rfl, Nat.le_of_ble_eq_true rfl⟩ (fun v w1 H locs hq hw => ?_)
  obtain ⟨N1, q16_0, rfl, rfl⟩ := hq
  have hw : lo_Wd X ([oX8 (d 0) (N1 0) (d 1) (d 2) (N1 3) (d 3) (N1 5) (d 4) (d 5) (d 6) (N1 9) (d 7) (N1 11) (N1 12) (N1 13) (N1 14) (N1 15) (N1 16) (N1 17) (N1 18) (N1 19) (N1 20) (N1 21) (N1 22) (N1 23) (N1 24) (N1 25) (N1 26) (N1 27) (N1 28), arI X (d 1) 122 (wCalc (wPut (wPut w i 2 r) i 3 a) i)]) A9 s9.heap H locs := hw
  refine W.eq (g2 := F0 m9 19 ls []) rfl ?_
  exact lo_vret E hRt hLk hK hAe hw dX8_setTerms_19 rfl ⟨N1, (q16_0), rfl, rfl⟩

