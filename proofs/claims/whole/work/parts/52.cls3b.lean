set_option maxHeartbeats 4000000 in
set_option maxRecDepth 100000 in
theorem kX7_interestToCome (l : Launch) (X : KX) (xo xi xh xs xr xt xl xa xc : Nat) (isz sv : Int) (xp ah : Nat) (A0 L : Nat → Int) (hLI : LI L) : CM l X yX7_interestToCome wsX7_interestToCome ({ frames := 3, cells := 0, slots := 0, locals := 67 }) [.ref xo, .ref ah] ([oX7 xo xi isz xp xh xs sv xr xt xl xa xc, oX2 xa (A0 0) (A0 1) (A0 2) (A0 3) (A0 4) (A0 5) (A0 6) (A0 7) (A0 8) (A0 9), oX2 ah (L 0) (L 1) (L 2) (L 3) (L 4) (L 5) (L 6) (L 7) (L 8) (L 9)]) (fun v9 w9 => v9 = some (.int (iI (runL 120 L 6 - L 6))) ∧ w9 = [oX7 xo xi isz xp xh xs sv xr xt xl xa xc, oX2 xa (runL 120 L 0) (runL 120 L 1) (runL 120 L 2) (runL 120 L 3) (runL 120 L 4) (runL 120 L 5) (runL 120 L 6) (runL 120 L 7) (runL 120 L 8) (runL 120 L 9), oX2 ah (L 0) (L 1) (L 2) (L 3) (L 4) (L 5) (L 6) (L 7) (L 8) (L 9)]) 0 0 := by
  refine lo_enter (cc := cX7_interestToCome) (maxL := 2) (ret := (some .int)) (lv := [(0, .ref xo), (1, .ref ah)]) (by decide) rfl rfl (Nat.le_of_ble_eq_true rfl) ?_
  intro p9 e9 s9 m9 bl9 me9 c9 A9 ls hAe E hRt hLk hK hl hw
  have Ex := E.1
  have Eb := E.2.1
  have huRX7 : ∀ w ∈ u_ws RX7 TX7 11, w ∈ wsX7_interestToCome := by decide +kernel
  have hf55 : (Cond.fieldLink RX7 55 "LoanSchedule" "aheadLoan" "LLoanSchedule$Loan;").before _ s9 = true := E.2.2.2.2 _ (List.mem_of_getElem? (i := 1) rfl)
  have huRX2 : ∀ w ∈ u_ws RX2 TX2 10, w ∈ wsX7_interestToCome := by decide +kernel
  have hf197 : (Cond.fieldLink RX7 197 "LoanSchedule$Loan" "interestSum" "I").before _ s9 = true := E.2.2.2.2 _ (List.mem_of_getElem? (i := 2) rfl)
  refine lv_aload_n Ex Eb dX7_interestToCome_0 rfl (lv_at hl 0 rfl) ?_
  refine lo_get E hK hw huRX7 9 hf55 rfl 0 rfl rfl (by decide) (v := .ref xa) rfl dX7_interestToCome_1 ?_
  refine lv_aload_n Ex Eb dX7_interestToCome_4 rfl (lv_at hl 1 rfl) ?_
  refine lo_callV (q0 := 1) (rest := []) E hK hw (kX2_copyFrom l X xa ah A0 L ) (cwV 1 E.2.2.2.2 gX7_interestToCome_X2_copyFrom rfl rfl rfl (by decide +kernel) ⟨Nat.le_of_ble_eq_true rfl, Nat.le_of_ble_eq_true rfl⟩) rfl rfl [1, 2] rfl (by decide) hl.1 rfl rfl (Nat.le_of_ble_eq_true rfl) dX7_interestToCome_5 ⟨Nat.le_of_ble_eq_true rfl, Nat.le_of_ble_eq_true rfl⟩ (fun v w1 H locs hq hw => ?_)
  obtain ⟨rfl, rfl⟩ := hq
  have hw : lo_Wd X ([oX7 xo xi isz xp xh xs sv xr xt xl xa xc, oX2 xa (L 0) (L 1) (L 2) (L 3) (L 4) (L 5) (L 6) (L 7) (L 8) (L 9), oX2 ah (L 0) (L 1) (L 2) (L 3) (L 4) (L 5) (L 6) (L 7) (L 8) (L 9)]) A9 s9.heap H locs := hw
  refine W.eq (g2 := F0 m9 8 ls []) rfl ?_
  refine lv_aload_n Ex Eb dX7_interestToCome_8 rfl (lv_at hl 0 rfl) ?_
  refine lo_get E hK hw huRX7 9 hf55 rfl 0 rfl rfl (by decide) (v := .ref xa) rfl dX7_interestToCome_9 ?_
  refine lv_bipush (v := iI 120) Ex Eb dX7_interestToCome_12 rfl ?_
  refine lo_callV (q0 := 1) (rest := []) E hK hw (kX2_settleMonths l X xa L 120 (hLI) (by omega)) (cwV 1 E.2.2.2.2 gX7_interestToCome_X2_settleMonths rfl rfl rfl (by decide +kernel) ⟨Nat.le_of_ble_eq_true rfl, Nat.le_of_ble_eq_true rfl⟩) rfl rfl [1] rfl (by decide) hl.1 rfl rfl (Nat.le_of_ble_eq_true rfl) dX7_interestToCome_14 ⟨Nat.le_of_ble_eq_true rfl, Nat.le_of_ble_eq_true rfl⟩ (fun v w1 H locs hq hw => ?_)
  obtain ⟨rfl, rfl⟩ := hq
  have hw : lo_Wd X ([oX7 xo xi isz xp xh xs sv xr xt xl xa xc, oX2 xa (runL 120 L 0) (runL 120 L 1) (runL 120 L 2) (runL 120 L 3) (runL 120 L 4) (runL 120 L 5) (runL 120 L 6) (runL 120 L 7) (runL 120 L 8) (runL 120 L 9), oX2 ah (L 0) (L 1) (L 2) (L 3) (L 4) (L 5) (L 6) (L 7) (L 8) (L 9)]) A9 s9.heap H locs := hw
  refine W.eq (g2 := F0 m9 17 ls [.int (iI (lastL 120 L 0))]) rfl ?_
  refine lv_pop Ex Eb dX7_interestToCome_17 rfl ?_
  refine lv_aload_n Ex Eb dX7_interestToCome_18 rfl (lv_at hl 0 rfl) ?_
  refine lo_get E hK hw huRX7 9 hf55 rfl 0 rfl rfl (by decide) (v := .ref xa) rfl dX7_interestToCome_19 ?_
  refine lo_get E hK hw huRX2 6 hf197 rfl 1 rfl rfl (by decide) (v := .int (iI (runL 120 L 6))) rfl dX7_interestToCome_22 ?_
  refine lv_aload_n Ex Eb dX7_interestToCome_25 rfl (lv_at hl 1 rfl) ?_
  refine lo_get E hK hw huRX2 6 hf197 rfl 2 rfl rfl (by decide) (v := .int (iI (L 6))) rfl dX7_interestToCome_26 ?_
  refine lo_isub E dX7_interestToCome_29 ?_
  exact lo_iret E hRt hLk hK hAe hw dX7_interestToCome_30 rfl ⟨rfl, rfl⟩
set_option maxHeartbeats 4000000 in
set_option maxRecDepth 100000 in
theorem kX7_lastPayment (l : Launch) (X : KX) (xo xi xh xs xr xt xl xa xc : Nat) (isz sv : Int) (xp ah : Nat) (A0 L : Nat → Int) (hLI : LI L) : CM l X yX7_lastPayment wsX7_lastPayment ({ frames := 3, cells := 0, slots := 0, locals := 67 }) [.ref xo, .ref ah] ([oX7 xo xi isz xp xh xs sv xr xt xl xa xc, oX2 xa (A0 0) (A0 1) (A0 2) (A0 3) (A0 4) (A0 5) (A0 6) (A0 7) (A0 8) (A0 9), oX2 ah (L 0) (L 1) (L 2) (L 3) (L 4) (L 5) (L 6) (L 7) (L 8) (L 9)]) (fun v9 w9 => v9 = some (.int (iI (lastL 120 L 0))) ∧ w9 = [oX7 xo xi isz xp xh xs sv xr xt xl xa xc, oX2 xa (runL 120 L 0) (runL 120 L 1) (runL 120 L 2) (runL 120 L 3) (runL 120 L 4) (runL 120 L 5) (runL 120 L 6) (runL 120 L 7) (runL 120 L 8) (runL 120 L 9), oX2 ah (L 0) (L 1) (L 2) (L 3) (L 4) (L 5) (L 6) (L 7) (L 8) (L 9)]) 0 0 := by
  refine lo_enter (cc := cX7_lastPayment) (maxL := 2) (ret := (some .int)) (lv := [(0, .ref xo), (1, .ref ah)]) (by decide) rfl rfl (Nat.le_of_ble_eq_true rfl) ?_
  intro p9 e9 s9 m9 bl9 me9 c9 A9 ls hAe E hRt hLk hK hl hw
  have Ex := E.1
  have Eb := E.2.1
  have huRX7 : ∀ w ∈ u_ws RX7 TX7 11, w ∈ wsX7_lastPayment := by decide +kernel
  have hf55 : (Cond.fieldLink RX7 55 "LoanSchedule" "aheadLoan" "LLoanSchedule$Loan;").before _ s9 = true := E.2.2.2.2 _ (List.mem_of_getElem? (i := 1) rfl)
  refine lv_aload_n Ex Eb dX7_lastPayment_0 rfl (lv_at hl 0 rfl) ?_
  refine lo_get E hK hw huRX7 9 hf55 rfl 0 rfl rfl (by decide) (v := .ref xa) rfl dX7_lastPayment_1 ?_
  refine lv_aload_n Ex Eb dX7_lastPayment_4 rfl (lv_at hl 1 rfl) ?_
  refine lo_callV (q0 := 1) (rest := []) E hK hw (kX2_copyFrom l X xa ah A0 L ) (cwV 1 E.2.2.2.2 gX7_lastPayment_X2_copyFrom rfl rfl rfl (by decide +kernel) ⟨Nat.le_of_ble_eq_true rfl, Nat.le_of_ble_eq_true rfl⟩) rfl rfl [1, 2] rfl (by decide) hl.1 rfl rfl (Nat.le_of_ble_eq_true rfl) dX7_lastPayment_5 ⟨Nat.le_of_ble_eq_true rfl, Nat.le_of_ble_eq_true rfl⟩ (fun v w1 H locs hq hw => ?_)
  obtain ⟨rfl, rfl⟩ := hq
  have hw : lo_Wd X ([oX7 xo xi isz xp xh xs sv xr xt xl xa xc, oX2 xa (L 0) (L 1) (L 2) (L 3) (L 4) (L 5) (L 6) (L 7) (L 8) (L 9), oX2 ah (L 0) (L 1) (L 2) (L 3) (L 4) (L 5) (L 6) (L 7) (L 8) (L 9)]) A9 s9.heap H locs := hw
  refine W.eq (g2 := F0 m9 8 ls []) rfl ?_
  refine lv_aload_n Ex Eb dX7_lastPayment_8 rfl (lv_at hl 0 rfl) ?_
  refine lo_get E hK hw huRX7 9 hf55 rfl 0 rfl rfl (by decide) (v := .ref xa) rfl dX7_lastPayment_9 ?_
  refine lv_bipush (v := iI 120) Ex Eb dX7_lastPayment_12 rfl ?_
  refine lo_callV (q0 := 1) (rest := []) E hK hw (kX2_settleMonths l X xa L 120 (hLI) (by omega)) (cwV 1 E.2.2.2.2 gX7_lastPayment_X2_settleMonths rfl rfl rfl (by decide +kernel) ⟨Nat.le_of_ble_eq_true rfl, Nat.le_of_ble_eq_true rfl⟩) rfl rfl [1] rfl (by decide) hl.1 rfl rfl (Nat.le_of_ble_eq_true rfl) dX7_lastPayment_14 ⟨Nat.le_of_ble_eq_true rfl, Nat.le_of_ble_eq_true rfl⟩ (fun v w1 H locs hq hw => ?_)
  obtain ⟨rfl, rfl⟩ := hq
  have hw : lo_Wd X ([oX7 xo xi isz xp xh xs sv xr xt xl xa xc, oX2 xa (runL 120 L 0) (runL 120 L 1) (runL 120 L 2) (runL 120 L 3) (runL 120 L 4) (runL 120 L 5) (runL 120 L 6) (runL 120 L 7) (runL 120 L 8) (runL 120 L 9), oX2 ah (L 0) (L 1) (L 2) (L 3) (L 4) (L 5) (L 6) (L 7) (L 8) (L 9)]) A9 s9.heap H locs := hw
  refine W.eq (g2 := F0 m9 17 ls [.int (iI (lastL 120 L 0))]) rfl ?_
  exact lo_iret E hRt hLk hK hAe hw dX7_lastPayment_17 rfl ⟨rfl, rfl⟩
set_option maxHeartbeats 4000000 in
set_option maxRecDepth 100000 in
theorem kX7_paymentsUntil (l : Launch) (X : KX) (xo xi xh xs xr xt xl xa xc : Nat) (isz sv : Int) (xp ah : Nat) (A0 L : Nat → Int) (am : Int) (hLI : LI L) (ham : 0 ≤ am ∧ am ≤ 9999999) : CM l X yX7_paymentsUntil wsX7_paymentsUntil ({ frames := 2, cells := 0, slots := 0, locals := 44 }) [.ref xo, .ref ah, .int (iI am)] ([oX7 xo xi isz xp xh xs sv xr xt xl xa xc, oX2 xa (A0 0) (A0 1) (A0 2) (A0 3) (A0 4) (A0 5) (A0 6) (A0 7) (A0 8) (A0 9), oX2 ah (L 0) (L 1) (L 2) (L 3) (L 4) (L 5) (L 6) (L 7) (L 8) (L 9)]) (fun v9 w9 => ∃ A9 : Nat → Int, (True) ∧ v9 = some (.int (iI (untL 120 L am))) ∧ w9 = [oX7 xo xi isz xp xh xs sv xr xt xl xa xc, oX2 xa (A9 0) (A9 1) (A9 2) (A9 3) (A9 4) (A9 5) (A9 6) (A9 7) (A9 8) (A9 9), oX2 ah (L 0) (L 1) (L 2) (L 3) (L 4) (L 5) (L 6) (L 7) (L 8) (L 9)]) 0 0 := by
  refine lo_enter (cc := cX7_paymentsUntil) (maxL := 4) (ret := (some .int)) (lv := [(0, .ref xo), (1, .ref ah), (2, .int (iI am))]) (by decide) rfl rfl (Nat.le_of_ble_eq_true rfl) ?_
  intro p9 e9 s9 m9 bl9 me9 c9 A9 ls hAe E hRt hLk hK hl hw
  have Ex := E.1
  have Eb := E.2.1
  have huRX7 : ∀ w ∈ u_ws RX7 TX7 11, w ∈ wsX7_paymentsUntil := by decide +kernel
  have hf55 : (Cond.fieldLink RX7 55 "LoanSchedule" "aheadLoan" "LLoanSchedule$Loan;").before _ s9 = true := E.2.2.2.2 _ (List.mem_of_getElem? (i := 1) rfl)
  have huRX2 : ∀ w ∈ u_ws RX2 TX2 10, w ∈ wsX7_paymentsUntil := by decide +kernel
  have hf137 : (Cond.fieldLink RX7 137 "LoanSchedule$Loan" "balance" "I").before _ s9 = true := E.2.2.2.2 _ (List.mem_of_getElem? (i := 2) rfl)
  refine lv_aload_n Ex Eb dX7_paymentsUntil_0 rfl (lv_at hl 0 rfl) ?_
  refine lo_get E hK hw huRX7 9 hf55 rfl 0 rfl rfl (by decide) (v := .ref xa) rfl dX7_paymentsUntil_1 ?_
  refine lv_aload_n Ex Eb dX7_paymentsUntil_4 rfl (lv_at hl 1 rfl) ?_
  refine lo_callV (q0 := 1) (rest := []) E hK hw (kX2_copyFrom l X xa ah A0 L ) (cwV 1 E.2.2.2.2 gX7_paymentsUntil_X2_copyFrom rfl rfl rfl (by decide +kernel) ⟨Nat.le_of_ble_eq_true rfl, Nat.le_of_ble_eq_true rfl⟩) rfl rfl [1, 2] rfl (by decide) hl.1 rfl rfl (Nat.le_of_ble_eq_true rfl) dX7_paymentsUntil_5 ⟨Nat.le_of_ble_eq_true rfl, Nat.le_of_ble_eq_true rfl⟩ (fun v w1 H locs hq hw => ?_)
  obtain ⟨rfl, rfl⟩ := hq
  have hw : lo_Wd X ([oX7 xo xi isz xp xh xs sv xr xt xl xa xc, oX2 xa (L 0) (L 1) (L 2) (L 3) (L 4) (L 5) (L 6) (L 7) (L 8) (L 9), oX2 ah (L 0) (L 1) (L 2) (L 3) (L 4) (L 5) (L 6) (L 7) (L 8) (L 9)]) A9 s9.heap H locs := hw
  refine W.eq (g2 := F0 m9 8 ls []) rfl ?_
  refine lv_iconst (v := iI 0) Ex Eb dX7_paymentsUntil_8 rfl ?_
  refine lv_istore_n (lv' := [(3, .int (iI 0)), (0, .ref xo), (1, .ref ah), (2, .int (iI am))]) Ex Eb dX7_paymentsUntil_9 rfl hl (by decide) rfl (fun ls hl => ?_)
  have lp10 : ∀ (n : Nat) (U : Nat → Int) (ct : Int), (120 - ct).toNat < n → (LI U) → (0 ≤ ct ∧ ct ≤ 120) → (untL (120 - ct).toNat U am + ct = untL 120 L am) → ∀ (H : Heap) (locs : List Loc) (ls : Array Slot), lo_Wd X ([oX7 xo xi isz xp xh xs sv xr xt xl xa xc, oX2 xa (U 0) (U 1) (U 2) (U 3) (U 4) (U 5) (U 6) (U 7) (U 8) (U 9), oX2 ah (L 0) (L 1) (L 2) (L 3) (L 4) (L 5) (L 6) (L 7) (L 8) (L 9)]) A9 s9.heap H locs → lv_has ls 4 [(0, .ref xo), (1, .ref ah), (2, .int (iI am)), (3, .int (iI ct))] → W p9 l e9 ({ frames := 2, cells := 0, slots := 0, locals := 44 } : Room) s9 m9 ([.ref xo, .ref ah, .int (iI am)] : List Value).toArray bl9 me9 c9 H locs 0 0 (MQ bl9 (lo_Qc X ([oX7 xo xi isz xp xh xs sv xr xt xl xa xc, oX2 xa (A0 0) (A0 1) (A0 2) (A0 3) (A0 4) (A0 5) (A0 6) (A0 7) (A0 8) (A0 9), oX2 ah (L 0) (L 1) (L 2) (L 3) (L 4) (L 5) (L 6) (L 7) (L 8) (L 9)]) s9.heap.size (fun v9 w9 => ∃ A9 : Nat → Int, (True) ∧ v9 = some (.int (iI (untL 120 L am))) ∧ w9 = [oX7 xo xi isz xp xh xs sv xr xt xl xa xc, oX2 xa (A9 0) (A9 1) (A9 2) (A9 3) (A9 4) (A9 5) (A9 6) (A9 7) (A9 8) (A9 9), oX2 ah (L 0) (L 1) (L 2) (L 3) (L 4) (L 5) (L 6) (L 7) (L 8) (L 9)])) ([.ref xo, .ref ah, .int (iI am)] : List Value).toArray s9 0 0 A9) (F0 m9 10 ls []) := by
    intro n
    induction n with
    | zero => intro U ct hn; exact absurd hn (Nat.not_lt_zero _)
    | succ n ih10 =>
      intro U ct hn10 iv10_0 iv10_1 iv10_2 H locs ls hw hl
      obtain ⟨⟨hb0, hb1⟩, ⟨hr0, hr1⟩, ⟨hc0, hc1⟩, ⟨hm0, hm1⟩, ⟨hi0, hi1⟩, ⟨hs0, hs1⟩, hop, hcl⟩ := id iv10_0
      refine lv_iload_n Ex Eb dX7_paymentsUntil_10 rfl (lv_at hl 3 rfl) ?_
      refine lv_bipush (v := iI 120) Ex Eb dX7_paymentsUntil_11 rfl ?_
      refine lo_icmp_ge (tgt := 41) E dX7_paymentsUntil_13 (by decide) (by omega) (by omega) (fun c1 => ?_) (fun c1 => ?_)
      · skip
        refine lv_iload_n Ex Eb dX7_paymentsUntil_41 rfl (lv_at hl 3 rfl) ?_
        exact lo_iret E hRt hLk hK hAe hw dX7_paymentsUntil_42 rfl ⟨U, (trivial), by rw [← iv10_2]; first | (rw [untL_e (by omega), Int.zero_add]) | (rw [show (120 - ct).toNat = 0 by omega]; show some (Value.int (iI ct)) = some (Value.int (iI (0 + ct))); rw [Int.zero_add]), rfl⟩
      · skip
        refine lv_aload_n Ex Eb dX7_paymentsUntil_16 rfl (lv_at hl 0 rfl) ?_
        refine lo_get E hK hw huRX7 9 hf55 rfl 0 rfl rfl (by decide) (v := .ref xa) rfl dX7_paymentsUntil_17 ?_
        refine lo_get E hK hw huRX2 1 hf137 rfl 1 rfl rfl (by decide) (v := .int (iI (U 1))) rfl dX7_paymentsUntil_20 ?_
        refine lv_iload_n Ex Eb dX7_paymentsUntil_23 rfl (lv_at hl 2 rfl) ?_
        refine lo_icmp_le (tgt := 41) E dX7_paymentsUntil_24 (by decide) (by omega) (by omega) (fun c2 => ?_) (fun c2 => ?_)
        · skip
          refine lv_iload_n Ex Eb dX7_paymentsUntil_41 rfl (lv_at hl 3 rfl) ?_
          exact lo_iret E hRt hLk hK hAe hw dX7_paymentsUntil_42 rfl ⟨U, (trivial), by rw [← iv10_2]; first | (rw [untL_e (by omega), Int.zero_add]) | (rw [show (120 - ct).toNat = 0 by omega]; show some (Value.int (iI ct)) = some (Value.int (iI (0 + ct))); rw [Int.zero_add]), rfl⟩
        · skip
          refine lv_aload_n Ex Eb dX7_paymentsUntil_27 rfl (lv_at hl 0 rfl) ?_
          refine lo_get E hK hw huRX7 9 hf55 rfl 0 rfl rfl (by decide) (v := .ref xa) rfl dX7_paymentsUntil_28 ?_
          refine lo_callV (q0 := 1) (rest := []) E hK hw (kX2_settleMonth l X xa U (by omega) (by omega) (by omega) (by omega) (by omega) (by omega) (by omega) (by omega)) (cwV 0 E.2.2.2.2 gX7_paymentsUntil_X2_settleMonth rfl rfl rfl (by decide +kernel) ⟨Nat.le_of_ble_eq_true rfl, Nat.le_of_ble_eq_true rfl⟩) rfl rfl [1] rfl (by decide) hl.1 rfl rfl (Nat.le_of_ble_eq_true rfl) dX7_paymentsUntil_31 ⟨Nat.le_of_ble_eq_true rfl, Nat.le_of_ble_eq_true rfl⟩ (fun v w1 H locs hq hw => ?_)
          obtain ⟨rfl, rfl⟩ := hq
          have hw : lo_Wd X ([oX7 xo xi isz xp xh xs sv xr xt xl xa xc, oX2 xa (payL U 0) (payL U 1) (payL U 2) (payL U 3) (payL U 4) (payL U 5) (payL U 6) (payL U 7) (payL U 8) (payL U 9), oX2 ah (L 0) (L 1) (L 2) (L 3) (L 4) (L 5) (L 6) (L 7) (L 8) (L 9)]) A9 s9.heap H locs := hw
          refine W.eq (g2 := F0 m9 34 ls [.int (iI (dueL U))]) rfl ?_
          refine lv_pop Ex Eb dX7_paymentsUntil_34 rfl ?_
          refine lo_iinc (lv' := [(3, .int (iI (ct + 1))), (0, .ref xo), (1, .ref ah), (2, .int (iI am))]) E dX7_paymentsUntil_35 hl (k := 3) rfl (by decide) rfl (fun ls hl => ?_)
          refine lv_goto (tgt := 10) Ex Eb dX7_paymentsUntil_38 (by decide) ?_
          exact ih10 (payL U) (ct + 1) (by omega) (payL_LI iv10_0 (by omega)) (by omega) (by rw [← iv10_2, show (120 - ct).toNat = (120 - (ct + 1)).toNat + 1 by omega, untL_s (by omega)]; omega) _ _ _ hw (lv_sub hl [1, 2, 3, 0] rfl)
  exact lp10 _ L 0 (Nat.lt_succ_self _) (hLI) (by omega) (by rw [show ((120 : Int) - 0).toNat = 120 by omega]; omega) _ _ _ hw (lv_sub hl [1, 2, 3, 0] rfl)
set_option maxHeartbeats 4000000 in
set_option maxRecDepth 100000 in
theorem kX7_interestWithTerms (l : Launch) (X : KX) (xo xi xh xs xr xt xl xa xc : Nat) (isz sv : Int) (xp ah : Nat) (A0 B0 L : Nat → Int) (r m : Int) (hLI : LI L) (ho : 0 < L 1) (hr9 : 0 ≤ r ∧ r ≤ 3000) (hm9 : 1 ≤ m ∧ m ≤ 120) : CM l X yX7_interestWithTerms wsX7_interestWithTerms ({ frames := 4, cells := 0, slots := 0, locals := 88 }) [.ref xo, .ref ah, .int (iI r), .int (iI m)] ([oX7 xo xi isz xp xh xs sv xr xt xl xa xc, oX2 xa (A0 0) (A0 1) (A0 2) (A0 3) (A0 4) (A0 5) (A0 6) (A0 7) (A0 8) (A0 9), oX2 xl (B0 0) (B0 1) (B0 2) (B0 3) (B0 4) (B0 5) (B0 6) (B0 7) (B0 8) (B0 9), oX2 ah (L 0) (L 1) (L 2) (L 3) (L 4) (L 5) (L 6) (L 7) (L 8) (L 9)]) (fun v9 w9 => v9 = some (.int (iI (runL 120 (setL L r m) 6 - setL L r m 6))) ∧ w9 = [oX7 xo xi isz xp xh xs sv xr xt xl xa xc, oX2 xa (runL 120 (setL L r m) 0) (runL 120 (setL L r m) 1) (runL 120 (setL L r m) 2) (runL 120 (setL L r m) 3) (runL 120 (setL L r m) 4) (runL 120 (setL L r m) 5) (runL 120 (setL L r m) 6) (runL 120 (setL L r m) 7) (runL 120 (setL L r m) 8) (runL 120 (setL L r m) 9), oX2 xl (setL L r m 0) (setL L r m 1) (setL L r m 2) (setL L r m 3) (setL L r m 4) (setL L r m 5) (setL L r m 6) (setL L r m 7) (setL L r m 8) (setL L r m 9), oX2 ah (L 0) (L 1) (L 2) (L 3) (L 4) (L 5) (L 6) (L 7) (L 8) (L 9)]) 0 0 := by
  refine lo_enter (cc := cX7_interestWithTerms) (maxL := 4) (ret := (some .int)) (lv := [(0, .ref xo), (1, .ref ah), (2, .int (iI r)), (3, .int (iI m))]) (by decide) rfl rfl (Nat.le_of_ble_eq_true rfl) ?_
  intro p9 e9 s9 m9 bl9 me9 c9 A9 ls hAe E hRt hLk hK hl hw
  have Ex := E.1
  have Eb := E.2.1
  have huRX7 : ∀ w ∈ u_ws RX7 TX7 11, w ∈ wsX7_interestWithTerms := by decide +kernel
  have hf51 : (Cond.fieldLink RX7 51 "LoanSchedule" "trialLoan" "LLoanSchedule$Loan;").before _ s9 = true := E.2.2.2.2 _ (List.mem_of_getElem? (i := 1) rfl)
  refine lv_aload_n Ex Eb dX7_interestWithTerms_0 rfl (lv_at hl 0 rfl) ?_
  refine lo_get E hK hw huRX7 8 hf51 rfl 0 rfl rfl (by decide) (v := .ref xl) rfl dX7_interestWithTerms_1 ?_
  refine lv_aload_n Ex Eb dX7_interestWithTerms_4 rfl (lv_at hl 1 rfl) ?_
  refine lo_callV (q0 := 2) (rest := []) E hK hw (kX2_copyFrom l X xl ah B0 L ) (cwV 1 E.2.2.2.2 gX7_interestWithTerms_X2_copyFrom rfl rfl rfl (by decide +kernel) ⟨Nat.le_of_ble_eq_true rfl, Nat.le_of_ble_eq_true rfl⟩) rfl rfl [2, 3] rfl (by decide) hl.1 rfl rfl (Nat.le_of_ble_eq_true rfl) dX7_interestWithTerms_5 ⟨Nat.le_of_ble_eq_true rfl, Nat.le_of_ble_eq_true rfl⟩ (fun v w1 H locs hq hw => ?_)
  obtain ⟨rfl, rfl⟩ := hq
  have hw : lo_Wd X ([oX7 xo xi isz xp xh xs sv xr xt xl xa xc, oX2 xa (A0 0) (A0 1) (A0 2) (A0 3) (A0 4) (A0 5) (A0 6) (A0 7) (A0 8) (A0 9), oX2 xl (L 0) (L 1) (L 2) (L 3) (L 4) (L 5) (L 6) (L 7) (L 8) (L 9), oX2 ah (L 0) (L 1) (L 2) (L 3) (L 4) (L 5) (L 6) (L 7) (L 8) (L 9)]) A9 s9.heap H locs := hw
  refine W.eq (g2 := F0 m9 8 ls []) rfl ?_
  refine lv_aload_n Ex Eb dX7_interestWithTerms_8 rfl (lv_at hl 0 rfl) ?_
  refine lo_get E hK hw huRX7 8 hf51 rfl 0 rfl rfl (by decide) (v := .ref xl) rfl dX7_interestWithTerms_9 ?_
  refine lv_iload_n Ex Eb dX7_interestWithTerms_12 rfl (lv_at hl 2 rfl) ?_
  refine lv_iload_n Ex Eb dX7_interestWithTerms_13 rfl (lv_at hl 3 rfl) ?_
  refine lo_callV (q0 := 2) (rest := []) E hK hw (kX2_setTerms l X xl L r m (hLI) (by omega) (by omega)) (cwV 2 E.2.2.2.2 gX7_interestWithTerms_X2_setTerms rfl rfl rfl (by decide +kernel) ⟨Nat.le_of_ble_eq_true rfl, Nat.le_of_ble_eq_true rfl⟩) rfl rfl [2] rfl (by decide) hl.1 rfl rfl (Nat.le_of_ble_eq_true rfl) dX7_interestWithTerms_14 ⟨Nat.le_of_ble_eq_true rfl, Nat.le_of_ble_eq_true rfl⟩ (fun v w1 H locs hq hw => ?_)
  obtain ⟨rfl, rfl⟩ := hq
  have hw : lo_Wd X ([oX7 xo xi isz xp xh xs sv xr xt xl xa xc, oX2 xa (A0 0) (A0 1) (A0 2) (A0 3) (A0 4) (A0 5) (A0 6) (A0 7) (A0 8) (A0 9), oX2 xl (setL L r m 0) (setL L r m 1) (setL L r m 2) (setL L r m 3) (setL L r m 4) (setL L r m 5) (setL L r m 6) (setL L r m 7) (setL L r m 8) (setL L r m 9), oX2 ah (L 0) (L 1) (L 2) (L 3) (L 4) (L 5) (L 6) (L 7) (L 8) (L 9)]) A9 s9.heap H locs := hw
  refine W.eq (g2 := F0 m9 17 ls [.int (iI (setL L r m 4))]) rfl ?_
  refine lv_pop Ex Eb dX7_interestWithTerms_17 rfl ?_
  refine lv_aload_n Ex Eb dX7_interestWithTerms_18 rfl (lv_at hl 0 rfl) ?_
  refine lv_aload_n Ex Eb dX7_interestWithTerms_19 rfl (lv_at hl 0 rfl) ?_
  refine lo_get E hK hw huRX7 8 hf51 rfl 0 rfl rfl (by decide) (v := .ref xl) rfl dX7_interestWithTerms_20 ?_
  refine lo_callV (q0 := 0) (rest := []) E hK hw (kX7_interestToCome l X xo xi xh xs xr xt xl xa xc isz sv xp xl A0 (setL L r m) (setL_LI hLI ho hr9.1 hr9.2 hm9.1 hm9.2)) (cwV 1 E.2.2.2.2 gX7_interestWithTerms_X7_interestToCome rfl rfl rfl (by decide +kernel) ⟨Nat.le_of_ble_eq_true rfl, Nat.le_of_ble_eq_true rfl⟩) rfl rfl [0, 1, 2] rfl (by decide) hl.1 rfl rfl (Nat.le_of_ble_eq_true rfl) dX7_interestWithTerms_23 ⟨Nat.le_of_ble_eq_true rfl, Nat.le_of_ble_eq_true rfl⟩ (fun v w1 H locs hq hw => ?_)
  obtain ⟨rfl, rfl⟩ := hq
  have hw : lo_Wd X ([oX7 xo xi isz xp xh xs sv xr xt xl xa xc, oX2 xa (runL 120 (setL L r m) 0) (runL 120 (setL L r m) 1) (runL 120 (setL L r m) 2) (runL 120 (setL L r m) 3) (runL 120 (setL L r m) 4) (runL 120 (setL L r m) 5) (runL 120 (setL L r m) 6) (runL 120 (setL L r m) 7) (runL 120 (setL L r m) 8) (runL 120 (setL L r m) 9), oX2 xl (setL L r m 0) (setL L r m 1) (setL L r m 2) (setL L r m 3) (setL L r m 4) (setL L r m 5) (setL L r m 6) (setL L r m 7) (setL L r m 8) (setL L r m 9), oX2 ah (L 0) (L 1) (L 2) (L 3) (L 4) (L 5) (L 6) (L 7) (L 8) (L 9)]) A9 s9.heap H locs := hw
  refine W.eq (g2 := F0 m9 26 ls [.int (iI (runL 120 (setL L r m) 6 - (setL L r m) 6))]) rfl ?_
  exact lo_iret E hRt hLk hK hAe hw dX7_interestWithTerms_26 rfl ⟨rfl, rfl⟩
set_option maxHeartbeats 4000000 in
set_option maxRecDepth 100000 in
theorem kX7_monthsFor (l : Launch) (X : KX) (kS : Nat → Nat) (hst : l.stackTraces = false) (xo xi xh xs xr xt xl xa xc : Nat) (isz sv : Int) (a b : Nat → Nat) (P : PT) (i k : Int) (hPI : PI P) (hi9 : i32 i) (hk9 : i32 k) : CT l X kS yX7_monthsFor wsX7_monthsFor ({ frames := 7, cells := 2, slots := 12, locals := 122 }) [.ref xo, .int (iI i), .int (iI k)] ([oX7 xo xi isz (a 0) xh xs sv xr xt xl xa xc, oX3 (a 0) (a 1) (a 2) (Pn P), arN X (a 1) 6 b, oX0 (a 2) (a 3) (a 4) (a 5) (Px P) (Pk P), arI X (a 3) 20 (Pa P), arI X (a 4) 20 (Pb P), arI X (a 5) 20 (Pd P)] ++ ((lsW b (PL P)))) (fun v9 w9 => ∃ z : Int, (0 ≤ i ∧ i < Pn P) ∧ (1 ≤ k ∧ k ≤ 9999999) ∧ ((0 < PL P i.toNat 1 ∧ z = trm (PL P i.toNat 2) k 120 1 (PL P i.toNat 1) (PL P i.toNat 5)) ∨ (PL P i.toNat 1 ≤ 0 ∧ z = 0)) ∧ v9 = some (.int (iI z)) ∧ w9 = [oX7 xo xi isz (a 0) xh xs sv xr xt xl xa xc, oX3 (a 0) (a 1) (a 2) (Pn P), arN X (a 1) 6 b, oX0 (a 2) (a 3) (a 4) (a 5) (Px P) (Pk P), arI X (a 3) 20 (Pa P), arI X (a 4) 20 (Pb P), arI X (a 5) 20 (Pd P)] ++ ((lsW b (PL P)))) (fun E9 w9 => ((E9 = "java/lang/IndexOutOfBoundsException" ∧ ¬ (0 ≤ i ∧ i < Pn P)) ∨ (E9 = "java/lang/IllegalArgumentException" ∧ (0 ≤ i ∧ i < Pn P) ∧ ¬ (1 ≤ k ∧ k ≤ 9999999))) ∧ w9 = [oX7 xo xi isz (a 0) xh xs sv xr xt xl xa xc, oX3 (a 0) (a 1) (a 2) (Pn P), arN X (a 1) 6 b, oX0 (a 2) (a 3) (a 4) (a 5) (Px P) (Pk P), arI X (a 3) 20 (Pa P), arI X (a 4) 20 (Pb P), arI X (a 5) 20 (Pd P)] ++ ((lsW b (PL P)))) 2 12 := by
  refine lo_enterT (cc := cX7_monthsFor) (maxL := 4) (ret := (some .int)) (lv := [(0, .ref xo), (1, .int (iI i)), (2, .int (iI k))]) (by decide) rfl rfl (Nat.le_of_ble_eq_true rfl) ?_
  intro p9 e9 s9 m9 bl9 me9 c9 A9 ls hAe E hRt hLk hK hl hw hV hT9
  have Ex := E.1
  have Eb := E.2.1
  have hc103 : (Cond.constant RX7 103 (9999999)).before _ s9 = true := E.2.2.2.2 _ (List.mem_of_getElem? (i := 1) rfl)
  obtain ⟨⟨hn0, hn1⟩, ⟨hx0, hx1⟩, ⟨hk0, hk1⟩, hL⟩ := id hPI
  refine lv_aload_n Ex Eb dX7_monthsFor_0 rfl (lv_at hl 0 rfl) ?_
  refine lv_iload_n Ex Eb dX7_monthsFor_1 rfl (lv_at hl 1 rfl) ?_
  have hw : lo_Wd X (([]) ++ ([oX7 xo xi isz (a 0) xh xs sv xr xt xl xa xc, oX3 (a 0) (a 1) (a 2) (Pn P), arN X (a 1) 6 b, oX0 (a 2) (a 3) (a 4) (a 5) (Px P) (Pk P), arI X (a 3) 20 (Pa P), arI X (a 4) 20 (Pb P), arI X (a 5) 20 (Pd P)] ++ ((lsW b (PL P))))) A9 s9.heap _ _ := hw
  refine lo_callVT (q0 := 0) (rest := []) E hK hw hV (kX7_loanAt l X kS hst xo xi xh xs xr xt xl xa xc isz sv a b P i (by omega) (by omega)) (cwV 1 E.2.2.2.2 gX7_monthsFor_X7_loanAt rfl rfl rfl (by decide +kernel) ⟨Nat.le_of_ble_eq_true rfl, Nat.le_of_ble_eq_true rfl⟩) rfl rfl (List.range' 0 13) (lo_ps_tail (pre := []) rfl rfl) (by decide +kernel) hl.1 rfl rfl (Nat.le_of_ble_eq_true rfl) dX7_monthsFor_2 ⟨Nat.le_of_ble_eq_true rfl, Nat.le_of_ble_eq_true rfl⟩ (fun E9 ce9 q9 w1 H locs hq hw hx1 hx2 hx3 => ?_) (fun v w1 H locs hq hw => ?_)
  · obtain ⟨x2_0, x2_1, rfl⟩ := hq
    have hw : lo_Wd X ([oX7 xo xi isz (a 0) xh xs sv xr xt xl xa xc, oX3 (a 0) (a 1) (a 2) (Pn P), arN X (a 1) 6 b, oX0 (a 2) (a 3) (a 4) (a 5) (Px P) (Pk P), arI X (a 3) 20 (Pa P), arI X (a 4) 20 (Pb P), arI X (a 5) 20 (Pd P)] ++ ((lsW b (PL P)))) A9 s9.heap H locs := hw
    exact lo_out hT9 hLk hK hAe hw hx1 hx2 hx3 rfl (Nat.le_of_ble_eq_true rfl) (Nat.le_of_ble_eq_true rfl) ⟨(Or.inl ⟨x2_0, x2_1⟩), rfl⟩
  obtain ⟨q2_0, rfl, rfl⟩ := hq
  have hw := lo_cast (lo_sets_tail (n := 13) (k := 0) (pre := []) (w0 := [oX7 xo xi isz (a 0) xh xs sv xr xt xl xa xc, oX3 (a 0) (a 1) (a 2) (Pn P), arN X (a 1) 6 b, oX0 (a 2) (a 3) (a 4) (a 5) (Px P) (Pk P), arI X (a 3) 20 (Pa P), arI X (a 4) 20 (Pb P), arI X (a 5) 20 (Pd P)] ++ ((lsW b (PL P)))) (w1 := [oX7 xo xi isz (a 0) xh xs sv xr xt xl xa xc, oX3 (a 0) (a 1) (a 2) (Pn P), arN X (a 1) 6 b, oX0 (a 2) (a 3) (a 4) (a 5) (Px P) (Pk P), arI X (a 3) 20 (Pa P), arI X (a 4) 20 (Pb P), arI X (a 5) 20 (Pd P)] ++ ((lsW b (PL P)))) rfl rfl rfl) hw
  have hw : lo_Wd X ([oX7 xo xi isz (a 0) xh xs sv xr xt xl xa xc, oX3 (a 0) (a 1) (a 2) (Pn P), arN X (a 1) 6 b, oX0 (a 2) (a 3) (a 4) (a 5) (Px P) (Pk P), arI X (a 3) 20 (Pa P), arI X (a 4) 20 (Pb P), arI X (a 5) 20 (Pd P)] ++ ((lsW b (PL P)))) A9 s9.heap H locs := hw
  refine W.eq (g2 := F0 m9 5 ls [.ref (b i.toNat)]) rfl ?_
  have hLi := hL i.toNat (by omega)
  obtain ⟨⟨hb0, hb1⟩, ⟨hr0, hr1⟩, ⟨hc0, hc1⟩, ⟨hm0, hm1⟩, ⟨hi0, hi1⟩, ⟨hs0, hs1⟩, hop, hcl⟩ := id hLi
  refine lv_astore_n (lv' := [(3, .ref (b i.toNat)), (0, .ref xo), (1, .int (iI i)), (2, .int (iI k))]) Ex Eb dX7_monthsFor_5 rfl hl (by decide) rfl (fun ls hl => ?_)
  refine lv_iload_n Ex Eb dX7_monthsFor_6 rfl (lv_at hl 3 rfl) ?_
  refine lv_iconst (v := iI 1) Ex Eb dX7_monthsFor_7 rfl ?_
  refine lo_ldc (z := 9999999) E hc103 dX7_monthsFor_8 rfl ?_
  refine lo_callST (rest := []) E hK hw hV (kX7_requireRange l X kS hst k 1 9999999 (by omega) (by omega) (by omega)) (cwS 3 E.2.2.2.2 gX7_monthsFor_X7_requireRange rfl rfl rfl (by decide +kernel) ⟨Nat.le_of_ble_eq_true rfl, Nat.le_of_ble_eq_true rfl⟩) [] rfl (by decide) hl.1 rfl rfl (Nat.le_of_ble_eq_true rfl) dX7_monthsFor_10 ⟨Nat.le_of_ble_eq_true rfl, Nat.le_of_ble_eq_true rfl⟩ (fun E9 ce9 q9 w1 H locs hq hw hx1 hx2 hx3 => ?_) (fun v w1 H locs hq hw => ?_)
  · obtain ⟨x10_0, x10_1, rfl⟩ := hq
    have hw : lo_Wd X ([oX7 xo xi isz (a 0) xh xs sv xr xt xl xa xc, oX3 (a 0) (a 1) (a 2) (Pn P), arN X (a 1) 6 b, oX0 (a 2) (a 3) (a 4) (a 5) (Px P) (Pk P), arI X (a 3) 20 (Pa P), arI X (a 4) 20 (Pb P), arI X (a 5) 20 (Pd P)] ++ ((lsW b (PL P)))) A9 s9.heap H locs := hw
    exact lo_out hT9 hLk hK hAe hw hx1 hx2 hx3 rfl (Nat.le_of_ble_eq_true rfl) (Nat.le_of_ble_eq_true rfl) ⟨(Or.inr ⟨x10_0, by omega, x10_1⟩), rfl⟩
  obtain ⟨q10_0, rfl, rfl⟩ := hq
  have hw : lo_Wd X ([oX7 xo xi isz (a 0) xh xs sv xr xt xl xa xc, oX3 (a 0) (a 1) (a 2) (Pn P), arN X (a 1) 6 b, oX0 (a 2) (a 3) (a 4) (a 5) (Px P) (Pk P), arI X (a 3) 20 (Pa P), arI X (a 4) 20 (Pb P), arI X (a 5) 20 (Pd P)] ++ ((lsW b (PL P)))) A9 s9.heap H locs := hw
  refine W.eq (g2 := F0 m9 13 ls []) rfl ?_
  refine lv_aload_n Ex Eb dX7_monthsFor_13 rfl (lv_at hl 0 rfl) ?_
  refine lo_callV (q0 := (7 + i.toNat)) (rest := []) E hK hw (kX2_isRunning l X (b i.toNat) (PL P i.toNat) (by omega)) (cwV 0 E.2.2.2.2 gX7_monthsFor_X2_isRunning rfl rfl rfl (by decide +kernel) ⟨Nat.le_of_ble_eq_true rfl, Nat.le_of_ble_eq_true rfl⟩) (lsW_atE (k := 7) rfl (by omega)) rfl [7 + i.toNat] (lo_ps_cons (lsW_atE (k := 7) rfl (by omega)) lo_ps_nil) (by simp [va_nd]) hl.1 rfl rfl (Nat.le_of_ble_eq_true rfl) dX7_monthsFor_14 ⟨Nat.le_of_ble_eq_true rfl, Nat.le_of_ble_eq_true rfl⟩ (fun v w1 H locs hq hw => ?_)
  obtain ⟨r1, q14_0, rfl, rfl⟩ := hq
  have hw := lo_cast (lsW_cE0 (k := 7) rfl (by omega)) hw
  have hw : lo_Wd X ([oX7 xo xi isz (a 0) xh xs sv xr xt xl xa xc, oX3 (a 0) (a 1) (a 2) (Pn P), arN X (a 1) 6 b, oX0 (a 2) (a 3) (a 4) (a 5) (Px P) (Pk P), arI X (a 3) 20 (Pa P), arI X (a 4) 20 (Pb P), arI X (a 5) 20 (Pd P)] ++ ((lsW b (PL P)))) A9 s9.heap H locs := hw
  refine W.eq (g2 := F0 m9 17 ls [.int (iI r1)]) rfl ?_
  refine lo_if_eq (tgt := 30) E dX7_monthsFor_17 (by decide) (by omega) (fun c2 => ?_) (fun c2 => ?_)
  · skip
    refine lv_iconst (v := iI 0) Ex Eb dX7_monthsFor_30 rfl ?_
    refine vx_ret ?_
    exact lo_iret E hRt hLk hK hAe hw dX7_monthsFor_31 rfl ⟨0, (by omega), (by omega), (by first | exact Or.inl ⟨by omega, rfl⟩ | exact Or.inr ⟨by omega, rfl⟩), rfl, rfl⟩
  · skip
    refine lv_aload_n Ex Eb dX7_monthsFor_20 rfl (lv_at hl 0 rfl) ?_
    refine lv_iload_n Ex Eb dX7_monthsFor_21 rfl (lv_at hl 3 rfl) ?_
    refine lv_bipush (v := iI 120) Ex Eb dX7_monthsFor_22 rfl ?_
    refine lo_callV (q0 := (7 + i.toNat)) (rest := []) E hK hw (kX2_termFor l X (b i.toNat) (PL P i.toNat) k 120 (by omega) (by omega) (by omega) (by omega) (by omega) (by omega) (by omega) (by omega)) (cwV 2 E.2.2.2.2 gX7_monthsFor_X2_termFor rfl rfl rfl (by decide +kernel) ⟨Nat.le_of_ble_eq_true rfl, Nat.le_of_ble_eq_true rfl⟩) (lsW_atE (k := 7) rfl (by omega)) rfl [7 + i.toNat] (lo_ps_cons (lsW_atE (k := 7) rfl (by omega)) lo_ps_nil) (by simp [va_nd]) hl.1 rfl rfl (Nat.le_of_ble_eq_true rfl) dX7_monthsFor_24 ⟨Nat.le_of_ble_eq_true rfl, Nat.le_of_ble_eq_true rfl⟩ (fun v w1 H locs hq hw => ?_)
    obtain ⟨rfl, rfl⟩ := hq
    have hw := lo_cast (lsW_cE0 (k := 7) rfl (by omega)) hw
    have hw : lo_Wd X ([oX7 xo xi isz (a 0) xh xs sv xr xt xl xa xc, oX3 (a 0) (a 1) (a 2) (Pn P), arN X (a 1) 6 b, oX0 (a 2) (a 3) (a 4) (a 5) (Px P) (Pk P), arI X (a 3) 20 (Pa P), arI X (a 4) 20 (Pb P), arI X (a 5) 20 (Pd P)] ++ ((lsW b (PL P)))) A9 s9.heap H locs := hw
    refine W.eq (g2 := F0 m9 27 ls [.int (iI (trm (PL P i.toNat 2) k 120 1 (PL P i.toNat 1) (PL P i.toNat 5)))]) rfl ?_
    refine lv_goto (tgt := 31) Ex Eb dX7_monthsFor_27 (by decide) ?_
    refine vx_ret ?_
    exact lo_iret E hRt hLk hK hAe hw dX7_monthsFor_31 rfl ⟨trm (PL P i.toNat 2) k 120 1 (PL P i.toNat 1) (PL P i.toNat 5), (by omega), (by omega), (by first | exact Or.inl ⟨by omega, rfl⟩ | exact Or.inr ⟨by omega, rfl⟩), rfl, rfl⟩
set_option maxHeartbeats 4000000 in
set_option maxRecDepth 100000 in
theorem kX7_interestAhead (l : Launch) (X : KX) (kS : Nat → Nat) (hst : l.stackTraces = false) (xo xi xh xs xr xt xl xa xc : Nat) (isz sv : Int) (A0 : Nat → Int) (a b : Nat → Nat) (P : PT) (i : Int) (hPI : PI P) (hi9 : i32 i) : CT l X kS yX7_interestAhead wsX7_interestAhead ({ frames := 7, cells := 1, slots := 6, locals := 121 }) [.ref xo, .int (iI i)] ([oX7 xo xi isz (a 0) xh xs sv xr xt xl xa xc, oX2 xa (A0 0) (A0 1) (A0 2) (A0 3) (A0 4) (A0 5) (A0 6) (A0 7) (A0 8) (A0 9), oX3 (a 0) (a 1) (a 2) (Pn P), arN X (a 1) 6 b, oX0 (a 2) (a 3) (a 4) (a 5) (Px P) (Pk P), arI X (a 3) 20 (Pa P), arI X (a 4) 20 (Pb P), arI X (a 5) 20 (Pd P)] ++ ((lsW b (PL P)))) (fun v9 w9 => ∃ A9 : Nat → Int, (0 ≤ i ∧ i < Pn P) ∧ v9 = some (.int (iI (runL 120 (PL P i.toNat) 6 - PL P i.toNat 6))) ∧ w9 = [oX7 xo xi isz (a 0) xh xs sv xr xt xl xa xc, oX2 xa (A9 0) (A9 1) (A9 2) (A9 3) (A9 4) (A9 5) (A9 6) (A9 7) (A9 8) (A9 9), oX3 (a 0) (a 1) (a 2) (Pn P), arN X (a 1) 6 b, oX0 (a 2) (a 3) (a 4) (a 5) (Px P) (Pk P), arI X (a 3) 20 (Pa P), arI X (a 4) 20 (Pb P), arI X (a 5) 20 (Pd P)] ++ ((lsW b (PL P)))) (fun E9 w9 => (E9 = "java/lang/IndexOutOfBoundsException") ∧ (¬ (0 ≤ i ∧ i < Pn P)) ∧ w9 = [oX7 xo xi isz (a 0) xh xs sv xr xt xl xa xc, oX2 xa (A0 0) (A0 1) (A0 2) (A0 3) (A0 4) (A0 5) (A0 6) (A0 7) (A0 8) (A0 9), oX3 (a 0) (a 1) (a 2) (Pn P), arN X (a 1) 6 b, oX0 (a 2) (a 3) (a 4) (a 5) (Px P) (Pk P), arI X (a 3) 20 (Pa P), arI X (a 4) 20 (Pb P), arI X (a 5) 20 (Pd P)] ++ ((lsW b (PL P)))) 1 6 := by
  refine lo_enterT (cc := cX7_interestAhead) (maxL := 2) (ret := (some .int)) (lv := [(0, .ref xo), (1, .int (iI i))]) (by decide) rfl rfl (Nat.le_of_ble_eq_true rfl) ?_
  intro p9 e9 s9 m9 bl9 me9 c9 A9 ls hAe E hRt hLk hK hl hw hV hT9
  have Ex := E.1
  have Eb := E.2.1
  obtain ⟨⟨hn0, hn1⟩, ⟨hx0, hx1⟩, ⟨hk0, hk1⟩, hL⟩ := id hPI
  refine lv_aload_n Ex Eb dX7_interestAhead_0 rfl (lv_at hl 0 rfl) ?_
  refine lv_aload_n Ex Eb dX7_interestAhead_1 rfl (lv_at hl 0 rfl) ?_
  refine lv_iload_n Ex Eb dX7_interestAhead_2 rfl (lv_at hl 1 rfl) ?_
  refine lo_callVT (q0 := 0) (rest := [.ref xo]) E hK hw hV (kX7_loanAt l X kS hst xo xi xh xs xr xt xl xa xc isz sv a b P i (by omega) (by omega)) (cwV 1 E.2.2.2.2 gX7_interestAhead_X7_loanAt rfl rfl rfl (by decide +kernel) ⟨Nat.le_of_ble_eq_true rfl, Nat.le_of_ble_eq_true rfl⟩) rfl rfl [0, 2, 3, 4, 5, 6, 7, 8, 9, 10, 11, 12, 13] rfl (by decide) hl.1 rfl rfl (Nat.le_of_ble_eq_true rfl) dX7_interestAhead_3 ⟨Nat.le_of_ble_eq_true rfl, Nat.le_of_ble_eq_true rfl⟩ (fun E9 ce9 q9 w1 H locs hq hw hx1 hx2 hx3 => ?_) (fun v w1 H locs hq hw => ?_)
  · obtain ⟨x3_0, x3_1, rfl⟩ := hq
    have hw : lo_Wd X ([oX7 xo xi isz (a 0) xh xs sv xr xt xl xa xc, oX2 xa (A0 0) (A0 1) (A0 2) (A0 3) (A0 4) (A0 5) (A0 6) (A0 7) (A0 8) (A0 9), oX3 (a 0) (a 1) (a 2) (Pn P), arN X (a 1) 6 b, oX0 (a 2) (a 3) (a 4) (a 5) (Px P) (Pk P), arI X (a 3) 20 (Pa P), arI X (a 4) 20 (Pb P), arI X (a 5) 20 (Pd P)] ++ ((lsW b (PL P)))) A9 s9.heap H locs := hw
    exact lo_out hT9 hLk hK hAe hw hx1 hx2 hx3 rfl (Nat.le_of_ble_eq_true rfl) (Nat.le_of_ble_eq_true rfl) ⟨(x3_0), (x3_1), rfl⟩
  obtain ⟨q3_0, rfl, rfl⟩ := hq
  have hw : lo_Wd X ([oX7 xo xi isz (a 0) xh xs sv xr xt xl xa xc, oX2 xa (A0 0) (A0 1) (A0 2) (A0 3) (A0 4) (A0 5) (A0 6) (A0 7) (A0 8) (A0 9), oX3 (a 0) (a 1) (a 2) (Pn P), arN X (a 1) 6 b, oX0 (a 2) (a 3) (a 4) (a 5) (Px P) (Pk P), arI X (a 3) 20 (Pa P), arI X (a 4) 20 (Pb P), arI X (a 5) 20 (Pd P)] ++ ((lsW b (PL P)))) A9 s9.heap H locs := hw
  refine W.eq (g2 := F0 m9 6 ls [.ref (b i.toNat), .ref xo]) rfl ?_
  have hLi := hL i.toNat (by omega)
  obtain ⟨⟨hb0, hb1⟩, ⟨hr0, hr1⟩, ⟨hc0, hc1⟩, ⟨hm0, hm1⟩, ⟨hi0, hi1⟩, ⟨hs0, hs1⟩, hop, hcl⟩ := id hLi
  refine lo_callV (q0 := 0) (rest := []) E hK hw (kX7_interestToCome l X xo xi xh xs xr xt xl xa xc isz sv (a 0) (b i.toNat) A0 (PL P i.toNat) (hLi)) (cwV 1 E.2.2.2.2 gX7_interestAhead_X7_interestToCome rfl rfl rfl (by decide +kernel) ⟨Nat.le_of_ble_eq_true rfl, Nat.le_of_ble_eq_true rfl⟩) rfl rfl [0, 1, 8 + i.toNat] (lo_ps_cons rfl (lo_ps_cons rfl (lo_ps_cons (lsW_atE (k := 8) rfl (by omega)) lo_ps_nil))) (by simp [va_nd]; try omega) hl.1 rfl rfl (Nat.le_of_ble_eq_true rfl) dX7_interestAhead_6 ⟨Nat.le_of_ble_eq_true rfl, Nat.le_of_ble_eq_true rfl⟩ (fun v w1 H locs hq hw => ?_)
  obtain ⟨rfl, rfl⟩ := hq
  have hw := lo_cast (lsW_k (k := 8) (ps := [0, 1]) (w1 := [oX7 xo xi isz (a 0) xh xs sv xr xt xl xa xc, oX2 xa (runL 120 (PL P i.toNat) 0) (runL 120 (PL P i.toNat) 1) (runL 120 (PL P i.toNat) 2) (runL 120 (PL P i.toNat) 3) (runL 120 (PL P i.toNat) 4) (runL 120 (PL P i.toNat) 5) (runL 120 (PL P i.toNat) 6) (runL 120 (PL P i.toNat) 7) (runL 120 (PL P i.toNat) 8) (runL 120 (PL P i.toNat) 9)]) rfl (by omega) (by decide) rfl rfl) hw
  have hw : lo_Wd X ([oX7 xo xi isz (a 0) xh xs sv xr xt xl xa xc, oX2 xa (runL 120 (PL P i.toNat) 0) (runL 120 (PL P i.toNat) 1) (runL 120 (PL P i.toNat) 2) (runL 120 (PL P i.toNat) 3) (runL 120 (PL P i.toNat) 4) (runL 120 (PL P i.toNat) 5) (runL 120 (PL P i.toNat) 6) (runL 120 (PL P i.toNat) 7) (runL 120 (PL P i.toNat) 8) (runL 120 (PL P i.toNat) 9), oX3 (a 0) (a 1) (a 2) (Pn P), arN X (a 1) 6 b, oX0 (a 2) (a 3) (a 4) (a 5) (Px P) (Pk P), arI X (a 3) 20 (Pa P), arI X (a 4) 20 (Pb P), arI X (a 5) 20 (Pd P)] ++ ((lsW b (PL P)))) A9 s9.heap H locs := hw
  refine W.eq (g2 := F0 m9 9 ls [.int (iI (runL 120 (PL P i.toNat) 6 - (PL P i.toNat) 6))]) rfl ?_
  refine vx_ret ?_
  exact lo_iret E hRt hLk hK hAe hw dX7_interestAhead_9 rfl ⟨runL 120 (PL P i.toNat), (by omega), rfl, rfl⟩
set_option maxHeartbeats 4000000 in
set_option maxRecDepth 100000 in
theorem kX7_lastDue (l : Launch) (X : KX) (kS : Nat → Nat) (hst : l.stackTraces = false) (xo xi xh xs xr xt xl xa xc : Nat) (isz sv : Int) (A0 : Nat → Int) (a b : Nat → Nat) (P : PT) (i : Int) (hPI : PI P) (hi9 : i32 i) : CT l X kS yX7_lastDue wsX7_lastDue ({ frames := 7, cells := 1, slots := 6, locals := 121 }) [.ref xo, .int (iI i)] ([oX7 xo xi isz (a 0) xh xs sv xr xt xl xa xc, oX2 xa (A0 0) (A0 1) (A0 2) (A0 3) (A0 4) (A0 5) (A0 6) (A0 7) (A0 8) (A0 9), oX3 (a 0) (a 1) (a 2) (Pn P), arN X (a 1) 6 b, oX0 (a 2) (a 3) (a 4) (a 5) (Px P) (Pk P), arI X (a 3) 20 (Pa P), arI X (a 4) 20 (Pb P), arI X (a 5) 20 (Pd P)] ++ ((lsW b (PL P)))) (fun v9 w9 => ∃ A9 : Nat → Int, (0 ≤ i ∧ i < Pn P) ∧ v9 = some (.int (iI (lastL 120 (PL P i.toNat) 0))) ∧ w9 = [oX7 xo xi isz (a 0) xh xs sv xr xt xl xa xc, oX2 xa (A9 0) (A9 1) (A9 2) (A9 3) (A9 4) (A9 5) (A9 6) (A9 7) (A9 8) (A9 9), oX3 (a 0) (a 1) (a 2) (Pn P), arN X (a 1) 6 b, oX0 (a 2) (a 3) (a 4) (a 5) (Px P) (Pk P), arI X (a 3) 20 (Pa P), arI X (a 4) 20 (Pb P), arI X (a 5) 20 (Pd P)] ++ ((lsW b (PL P)))) (fun E9 w9 => (E9 = "java/lang/IndexOutOfBoundsException") ∧ (¬ (0 ≤ i ∧ i < Pn P)) ∧ w9 = [oX7 xo xi isz (a 0) xh xs sv xr xt xl xa xc, oX2 xa (A0 0) (A0 1) (A0 2) (A0 3) (A0 4) (A0 5) (A0 6) (A0 7) (A0 8) (A0 9), oX3 (a 0) (a 1) (a 2) (Pn P), arN X (a 1) 6 b, oX0 (a 2) (a 3) (a 4) (a 5) (Px P) (Pk P), arI X (a 3) 20 (Pa P), arI X (a 4) 20 (Pb P), arI X (a 5) 20 (Pd P)] ++ ((lsW b (PL P)))) 1 6 := by
  refine lo_enterT (cc := cX7_lastDue) (maxL := 2) (ret := (some .int)) (lv := [(0, .ref xo), (1, .int (iI i))]) (by decide) rfl rfl (Nat.le_of_ble_eq_true rfl) ?_
  intro p9 e9 s9 m9 bl9 me9 c9 A9 ls hAe E hRt hLk hK hl hw hV hT9
  have Ex := E.1
  have Eb := E.2.1
  obtain ⟨⟨hn0, hn1⟩, ⟨hx0, hx1⟩, ⟨hk0, hk1⟩, hL⟩ := id hPI
  refine lv_aload_n Ex Eb dX7_lastDue_0 rfl (lv_at hl 0 rfl) ?_
  refine lv_aload_n Ex Eb dX7_lastDue_1 rfl (lv_at hl 0 rfl) ?_
  refine lv_iload_n Ex Eb dX7_lastDue_2 rfl (lv_at hl 1 rfl) ?_
  refine lo_callVT (q0 := 0) (rest := [.ref xo]) E hK hw hV (kX7_loanAt l X kS hst xo xi xh xs xr xt xl xa xc isz sv a b P i (by omega) (by omega)) (cwV 1 E.2.2.2.2 gX7_lastDue_X7_loanAt rfl rfl rfl (by decide +kernel) ⟨Nat.le_of_ble_eq_true rfl, Nat.le_of_ble_eq_true rfl⟩) rfl rfl [0, 2, 3, 4, 5, 6, 7, 8, 9, 10, 11, 12, 13] rfl (by decide) hl.1 rfl rfl (Nat.le_of_ble_eq_true rfl) dX7_lastDue_3 ⟨Nat.le_of_ble_eq_true rfl, Nat.le_of_ble_eq_true rfl⟩ (fun E9 ce9 q9 w1 H locs hq hw hx1 hx2 hx3 => ?_) (fun v w1 H locs hq hw => ?_)
  · obtain ⟨x3_0, x3_1, rfl⟩ := hq
    have hw : lo_Wd X ([oX7 xo xi isz (a 0) xh xs sv xr xt xl xa xc, oX2 xa (A0 0) (A0 1) (A0 2) (A0 3) (A0 4) (A0 5) (A0 6) (A0 7) (A0 8) (A0 9), oX3 (a 0) (a 1) (a 2) (Pn P), arN X (a 1) 6 b, oX0 (a 2) (a 3) (a 4) (a 5) (Px P) (Pk P), arI X (a 3) 20 (Pa P), arI X (a 4) 20 (Pb P), arI X (a 5) 20 (Pd P)] ++ ((lsW b (PL P)))) A9 s9.heap H locs := hw
    exact lo_out hT9 hLk hK hAe hw hx1 hx2 hx3 rfl (Nat.le_of_ble_eq_true rfl) (Nat.le_of_ble_eq_true rfl) ⟨(x3_0), (x3_1), rfl⟩
  obtain ⟨q3_0, rfl, rfl⟩ := hq
  have hw : lo_Wd X ([oX7 xo xi isz (a 0) xh xs sv xr xt xl xa xc, oX2 xa (A0 0) (A0 1) (A0 2) (A0 3) (A0 4) (A0 5) (A0 6) (A0 7) (A0 8) (A0 9), oX3 (a 0) (a 1) (a 2) (Pn P), arN X (a 1) 6 b, oX0 (a 2) (a 3) (a 4) (a 5) (Px P) (Pk P), arI X (a 3) 20 (Pa P), arI X (a 4) 20 (Pb P), arI X (a 5) 20 (Pd P)] ++ ((lsW b (PL P)))) A9 s9.heap H locs := hw
  refine W.eq (g2 := F0 m9 6 ls [.ref (b i.toNat), .ref xo]) rfl ?_
  have hLi := hL i.toNat (by omega)
  obtain ⟨⟨hb0, hb1⟩, ⟨hr0, hr1⟩, ⟨hc0, hc1⟩, ⟨hm0, hm1⟩, ⟨hi0, hi1⟩, ⟨hs0, hs1⟩, hop, hcl⟩ := id hLi
  refine lo_callV (q0 := 0) (rest := []) E hK hw (kX7_lastPayment l X xo xi xh xs xr xt xl xa xc isz sv (a 0) (b i.toNat) A0 (PL P i.toNat) (hLi)) (cwV 1 E.2.2.2.2 gX7_lastDue_X7_lastPayment rfl rfl rfl (by decide +kernel) ⟨Nat.le_of_ble_eq_true rfl, Nat.le_of_ble_eq_true rfl⟩) rfl rfl [0, 1, 8 + i.toNat] (lo_ps_cons rfl (lo_ps_cons rfl (lo_ps_cons (lsW_atE (k := 8) rfl (by omega)) lo_ps_nil))) (by simp [va_nd]; try omega) hl.1 rfl rfl (Nat.le_of_ble_eq_true rfl) dX7_lastDue_6 ⟨Nat.le_of_ble_eq_true rfl, Nat.le_of_ble_eq_true rfl⟩ (fun v w1 H locs hq hw => ?_)
  obtain ⟨rfl, rfl⟩ := hq
  have hw := lo_cast (lsW_k (k := 8) (ps := [0, 1]) (w1 := [oX7 xo xi isz (a 0) xh xs sv xr xt xl xa xc, oX2 xa (runL 120 (PL P i.toNat) 0) (runL 120 (PL P i.toNat) 1) (runL 120 (PL P i.toNat) 2) (runL 120 (PL P i.toNat) 3) (runL 120 (PL P i.toNat) 4) (runL 120 (PL P i.toNat) 5) (runL 120 (PL P i.toNat) 6) (runL 120 (PL P i.toNat) 7) (runL 120 (PL P i.toNat) 8) (runL 120 (PL P i.toNat) 9)]) rfl (by omega) (by decide) rfl rfl) hw
  have hw : lo_Wd X ([oX7 xo xi isz (a 0) xh xs sv xr xt xl xa xc, oX2 xa (runL 120 (PL P i.toNat) 0) (runL 120 (PL P i.toNat) 1) (runL 120 (PL P i.toNat) 2) (runL 120 (PL P i.toNat) 3) (runL 120 (PL P i.toNat) 4) (runL 120 (PL P i.toNat) 5) (runL 120 (PL P i.toNat) 6) (runL 120 (PL P i.toNat) 7) (runL 120 (PL P i.toNat) 8) (runL 120 (PL P i.toNat) 9), oX3 (a 0) (a 1) (a 2) (Pn P), arN X (a 1) 6 b, oX0 (a 2) (a 3) (a 4) (a 5) (Px P) (Pk P), arI X (a 3) 20 (Pa P), arI X (a 4) 20 (Pb P), arI X (a 5) 20 (Pd P)] ++ ((lsW b (PL P)))) A9 s9.heap H locs := hw
  refine W.eq (g2 := F0 m9 9 ls [.int (iI (lastL 120 (PL P i.toNat) 0))]) rfl ?_
  refine vx_ret ?_
  exact lo_iret E hRt hLk hK hAe hw dX7_lastDue_9 rfl ⟨runL 120 (PL P i.toNat), (by omega), rfl, rfl⟩
set_option maxHeartbeats 4000000 in
set_option maxRecDepth 100000 in
theorem kX7_monthsToHalf (l : Launch) (X : KX) (kS : Nat → Nat) (hst : l.stackTraces = false) (xo xi xh xs xr xt xl xa xc : Nat) (isz sv : Int) (A0 : Nat → Int) (a b : Nat → Nat) (P : PT) (i : Int) (hPI : PI P) (hpr : ∀ k : Nat, (k : Int) < Pn P → 1 ≤ PL P k 0 ∧ PL P k 0 ≤ 9999999) (hi9 : i32 i) : CT l X kS yX7_monthsToHalf wsX7_monthsToHalf ({ frames := 7, cells := 1, slots := 6, locals := 121 }) [.ref xo, .int (iI i)] ([oX7 xo xi isz (a 0) xh xs sv xr xt xl xa xc, oX2 xa (A0 0) (A0 1) (A0 2) (A0 3) (A0 4) (A0 5) (A0 6) (A0 7) (A0 8) (A0 9), oX3 (a 0) (a 1) (a 2) (Pn P), arN X (a 1) 6 b, oX0 (a 2) (a 3) (a 4) (a 5) (Px P) (Pk P), arI X (a 3) 20 (Pa P), arI X (a 4) 20 (Pb P), arI X (a 5) 20 (Pd P)] ++ ((lsW b (PL P)))) (fun v9 w9 => ∃ A9 : Nat → Int, (0 ≤ i ∧ i < Pn P) ∧ v9 = some (.int (iI (untL 120 (PL P i.toNat) (PL P i.toNat 0 / 2)))) ∧ w9 = [oX7 xo xi isz (a 0) xh xs sv xr xt xl xa xc, oX2 xa (A9 0) (A9 1) (A9 2) (A9 3) (A9 4) (A9 5) (A9 6) (A9 7) (A9 8) (A9 9), oX3 (a 0) (a 1) (a 2) (Pn P), arN X (a 1) 6 b, oX0 (a 2) (a 3) (a 4) (a 5) (Px P) (Pk P), arI X (a 3) 20 (Pa P), arI X (a 4) 20 (Pb P), arI X (a 5) 20 (Pd P)] ++ ((lsW b (PL P)))) (fun E9 w9 => (E9 = "java/lang/IndexOutOfBoundsException") ∧ (¬ (0 ≤ i ∧ i < Pn P)) ∧ w9 = [oX7 xo xi isz (a 0) xh xs sv xr xt xl xa xc, oX2 xa (A0 0) (A0 1) (A0 2) (A0 3) (A0 4) (A0 5) (A0 6) (A0 7) (A0 8) (A0 9), oX3 (a 0) (a 1) (a 2) (Pn P), arN X (a 1) 6 b, oX0 (a 2) (a 3) (a 4) (a 5) (Px P) (Pk P), arI X (a 3) 20 (Pa P), arI X (a 4) 20 (Pb P), arI X (a 5) 20 (Pd P)] ++ ((lsW b (PL P)))) 1 6 := by
  refine lo_enterT (cc := cX7_monthsToHalf) (maxL := 3) (ret := (some .int)) (lv := [(0, .ref xo), (1, .int (iI i))]) (by decide) rfl rfl (Nat.le_of_ble_eq_true rfl) ?_
  intro p9 e9 s9 m9 bl9 me9 c9 A9 ls hAe E hRt hLk hK hl hw hV hT9
  have Ex := E.1
  have Eb := E.2.1
  have huRX2 : ∀ w ∈ u_ws RX2 TX2 10, w ∈ wsX7_monthsToHalf := by decide +kernel
  have hf182 : (Cond.fieldLink RX7 182 "LoanSchedule$Loan" "principal" "I").before _ s9 = true := E.2.2.2.2 _ (List.mem_of_getElem? (i := 1) rfl)
  obtain ⟨⟨hn0, hn1⟩, ⟨hx0, hx1⟩, ⟨hk0, hk1⟩, hL⟩ := id hPI
  refine lv_aload_n Ex Eb dX7_monthsToHalf_0 rfl (lv_at hl 0 rfl) ?_
  refine lv_iload_n Ex Eb dX7_monthsToHalf_1 rfl (lv_at hl 1 rfl) ?_
  refine lo_callVT (q0 := 0) (rest := []) E hK hw hV (kX7_loanAt l X kS hst xo xi xh xs xr xt xl xa xc isz sv a b P i (by omega) (by omega)) (cwV 1 E.2.2.2.2 gX7_monthsToHalf_X7_loanAt rfl rfl rfl (by decide +kernel) ⟨Nat.le_of_ble_eq_true rfl, Nat.le_of_ble_eq_true rfl⟩) rfl rfl [0, 2, 3, 4, 5, 6, 7, 8, 9, 10, 11, 12, 13] rfl (by decide) hl.1 rfl rfl (Nat.le_of_ble_eq_true rfl) dX7_monthsToHalf_2 ⟨Nat.le_of_ble_eq_true rfl, Nat.le_of_ble_eq_true rfl⟩ (fun E9 ce9 q9 w1 H locs hq hw hx1 hx2 hx3 => ?_) (fun v w1 H locs hq hw => ?_)
  · obtain ⟨x2_0, x2_1, rfl⟩ := hq
    have hw : lo_Wd X ([oX7 xo xi isz (a 0) xh xs sv xr xt xl xa xc, oX2 xa (A0 0) (A0 1) (A0 2) (A0 3) (A0 4) (A0 5) (A0 6) (A0 7) (A0 8) (A0 9), oX3 (a 0) (a 1) (a 2) (Pn P), arN X (a 1) 6 b, oX0 (a 2) (a 3) (a 4) (a 5) (Px P) (Pk P), arI X (a 3) 20 (Pa P), arI X (a 4) 20 (Pb P), arI X (a 5) 20 (Pd P)] ++ ((lsW b (PL P)))) A9 s9.heap H locs := hw
    exact lo_out hT9 hLk hK hAe hw hx1 hx2 hx3 rfl (Nat.le_of_ble_eq_true rfl) (Nat.le_of_ble_eq_true rfl) ⟨(x2_0), (x2_1), rfl⟩
  obtain ⟨q2_0, rfl, rfl⟩ := hq
  have hw : lo_Wd X ([oX7 xo xi isz (a 0) xh xs sv xr xt xl xa xc, oX2 xa (A0 0) (A0 1) (A0 2) (A0 3) (A0 4) (A0 5) (A0 6) (A0 7) (A0 8) (A0 9), oX3 (a 0) (a 1) (a 2) (Pn P), arN X (a 1) 6 b, oX0 (a 2) (a 3) (a 4) (a 5) (Px P) (Pk P), arI X (a 3) 20 (Pa P), arI X (a 4) 20 (Pb P), arI X (a 5) 20 (Pd P)] ++ ((lsW b (PL P)))) A9 s9.heap H locs := hw
  refine W.eq (g2 := F0 m9 5 ls [.ref (b i.toNat)]) rfl ?_
  have hLi := hL i.toNat (by omega)
  obtain ⟨⟨hb0, hb1⟩, ⟨hr0, hr1⟩, ⟨hc0, hc1⟩, ⟨hm0, hm1⟩, ⟨hi0, hi1⟩, ⟨hs0, hs1⟩, hop, hcl⟩ := id hLi
  have hpi := hpr i.toNat (by omega)
  refine lv_astore_n (lv' := [(2, .ref (b i.toNat)), (0, .ref xo), (1, .int (iI i))]) Ex Eb dX7_monthsToHalf_5 rfl hl (by decide) rfl (fun ls hl => ?_)
  refine lv_aload_n Ex Eb dX7_monthsToHalf_6 rfl (lv_at hl 1 rfl) ?_
  refine lv_aload_n Ex Eb dX7_monthsToHalf_7 rfl (lv_at hl 0 rfl) ?_
  refine lv_aload_n Ex Eb dX7_monthsToHalf_8 rfl (lv_at hl 0 rfl) ?_
  refine lo_get E hK hw huRX2 0 hf182 rfl (8 + i.toNat) (lsW_atE (k := 8) rfl (by omega)) rfl (by decide) (v := .int (iI (PL P i.toNat 0))) rfl dX7_monthsToHalf_9 ?_
  refine lv_iconst (v := iI 2) Ex Eb dX7_monthsToHalf_12 rfl ?_
  refine lo_idiv E dX7_monthsToHalf_13 (by omega) (by omega) ?_
  refine lo_callV (q0 := 0) (rest := []) E hK hw (kX7_paymentsUntil l X xo xi xh xs xr xt xl xa xc isz sv (a 0) (b i.toNat) A0 (PL P i.toNat) ((PL P i.toNat 0) / 2) (hLi) (by omega)) (cwV 2 E.2.2.2.2 gX7_monthsToHalf_X7_paymentsUntil rfl rfl rfl (by decide +kernel) ⟨Nat.le_of_ble_eq_true rfl, Nat.le_of_ble_eq_true rfl⟩) rfl rfl [0, 1, 8 + i.toNat] (lo_ps_cons rfl (lo_ps_cons rfl (lo_ps_cons (lsW_atE (k := 8) rfl (by omega)) lo_ps_nil))) (by simp [va_nd]; try omega) hl.1 rfl rfl (Nat.le_of_ble_eq_true rfl) dX7_monthsToHalf_14 ⟨Nat.le_of_ble_eq_true rfl, Nat.le_of_ble_eq_true rfl⟩ (fun v w1 H locs hq hw => ?_)
  obtain ⟨A91, q14_0, rfl, rfl⟩ := hq
  have hw := lo_cast (lsW_k (k := 8) (ps := [0, 1]) (w1 := [oX7 xo xi isz (a 0) xh xs sv xr xt xl xa xc, oX2 xa (A91 0) (A91 1) (A91 2) (A91 3) (A91 4) (A91 5) (A91 6) (A91 7) (A91 8) (A91 9)]) rfl (by omega) (by decide) rfl rfl) hw
  have hw : lo_Wd X ([oX7 xo xi isz (a 0) xh xs sv xr xt xl xa xc, oX2 xa (A91 0) (A91 1) (A91 2) (A91 3) (A91 4) (A91 5) (A91 6) (A91 7) (A91 8) (A91 9), oX3 (a 0) (a 1) (a 2) (Pn P), arN X (a 1) 6 b, oX0 (a 2) (a 3) (a 4) (a 5) (Px P) (Pk P), arI X (a 3) 20 (Pa P), arI X (a 4) 20 (Pb P), arI X (a 5) 20 (Pd P)] ++ ((lsW b (PL P)))) A9 s9.heap H locs := hw
  refine W.eq (g2 := F0 m9 17 ls [.int (iI (untL 120 (PL P i.toNat) ((PL P i.toNat 0) / 2)))]) rfl ?_
  refine vx_ret ?_
  exact lo_iret E hRt hLk hK hAe hw dX7_monthsToHalf_17 rfl ⟨A91, (by omega), rfl, rfl⟩
set_option maxHeartbeats 4000000 in
set_option maxRecDepth 100000 in
theorem kX7_paymentsTo (l : Launch) (X : KX) (kS : Nat → Nat) (hst : l.stackTraces = false) (xo xi xh xs xr xt xl xa xc : Nat) (isz sv : Int) (A0 : Nat → Int) (a b : Nat → Nat) (P : PT) (i k : Int) (hPI : PI P) (hi9 : i32 i) (hk9 : i32 k) : CT l X kS yX7_paymentsTo wsX7_paymentsTo ({ frames := 7, cells := 2, slots := 12, locals := 122 }) [.ref xo, .int (iI i), .int (iI k)] ([oX7 xo xi isz (a 0) xh xs sv xr xt xl xa xc, oX2 xa (A0 0) (A0 1) (A0 2) (A0 3) (A0 4) (A0 5) (A0 6) (A0 7) (A0 8) (A0 9), oX3 (a 0) (a 1) (a 2) (Pn P), arN X (a 1) 6 b, oX0 (a 2) (a 3) (a 4) (a 5) (Px P) (Pk P), arI X (a 3) 20 (Pa P), arI X (a 4) 20 (Pb P), arI X (a 5) 20 (Pd P)] ++ ((lsW b (PL P)))) (fun v9 w9 => ∃ A9 : Nat → Int, (0 ≤ i ∧ i < Pn P) ∧ (0 ≤ k ∧ k ≤ 9999999) ∧ v9 = some (.int (iI (untL 120 (PL P i.toNat) k))) ∧ w9 = [oX7 xo xi isz (a 0) xh xs sv xr xt xl xa xc, oX2 xa (A9 0) (A9 1) (A9 2) (A9 3) (A9 4) (A9 5) (A9 6) (A9 7) (A9 8) (A9 9), oX3 (a 0) (a 1) (a 2) (Pn P), arN X (a 1) 6 b, oX0 (a 2) (a 3) (a 4) (a 5) (Px P) (Pk P), arI X (a 3) 20 (Pa P), arI X (a 4) 20 (Pb P), arI X (a 5) 20 (Pd P)] ++ ((lsW b (PL P)))) (fun E9 w9 => ((E9 = "java/lang/IndexOutOfBoundsException" ∧ ¬ (0 ≤ i ∧ i < Pn P)) ∨ (E9 = "java/lang/IllegalArgumentException" ∧ (0 ≤ i ∧ i < Pn P) ∧ ¬ (0 ≤ k ∧ k ≤ 9999999))) ∧ w9 = [oX7 xo xi isz (a 0) xh xs sv xr xt xl xa xc, oX2 xa (A0 0) (A0 1) (A0 2) (A0 3) (A0 4) (A0 5) (A0 6) (A0 7) (A0 8) (A0 9), oX3 (a 0) (a 1) (a 2) (Pn P), arN X (a 1) 6 b, oX0 (a 2) (a 3) (a 4) (a 5) (Px P) (Pk P), arI X (a 3) 20 (Pa P), arI X (a 4) 20 (Pb P), arI X (a 5) 20 (Pd P)] ++ ((lsW b (PL P)))) 2 12 := by
  refine lo_enterT (cc := cX7_paymentsTo) (maxL := 4) (ret := (some .int)) (lv := [(0, .ref xo), (1, .int (iI i)), (2, .int (iI k))]) (by decide) rfl rfl (Nat.le_of_ble_eq_true rfl) ?_
  intro p9 e9 s9 m9 bl9 me9 c9 A9 ls hAe E hRt hLk hK hl hw hV hT9
  have Ex := E.1
  have Eb := E.2.1
  have hc103 : (Cond.constant RX7 103 (9999999)).before _ s9 = true := E.2.2.2.2 _ (List.mem_of_getElem? (i := 1) rfl)
  obtain ⟨⟨hn0, hn1⟩, ⟨hx0, hx1⟩, ⟨hk0, hk1⟩, hL⟩ := id hPI
  refine lv_aload_n Ex Eb dX7_paymentsTo_0 rfl (lv_at hl 0 rfl) ?_
  refine lv_iload_n Ex Eb dX7_paymentsTo_1 rfl (lv_at hl 1 rfl) ?_
  refine lo_callVT (q0 := 0) (rest := []) E hK hw hV (kX7_loanAt l X kS hst xo xi xh xs xr xt xl xa xc isz sv a b P i (by omega) (by omega)) (cwV 1 E.2.2.2.2 gX7_paymentsTo_X7_loanAt rfl rfl rfl (by decide +kernel) ⟨Nat.le_of_ble_eq_true rfl, Nat.le_of_ble_eq_true rfl⟩) rfl rfl [0, 2, 3, 4, 5, 6, 7, 8, 9, 10, 11, 12, 13] rfl (by decide) hl.1 rfl rfl (Nat.le_of_ble_eq_true rfl) dX7_paymentsTo_2 ⟨Nat.le_of_ble_eq_true rfl, Nat.le_of_ble_eq_true rfl⟩ (fun E9 ce9 q9 w1 H locs hq hw hx1 hx2 hx3 => ?_) (fun v w1 H locs hq hw => ?_)
  · obtain ⟨x2_0, x2_1, rfl⟩ := hq
    have hw : lo_Wd X ([oX7 xo xi isz (a 0) xh xs sv xr xt xl xa xc, oX2 xa (A0 0) (A0 1) (A0 2) (A0 3) (A0 4) (A0 5) (A0 6) (A0 7) (A0 8) (A0 9), oX3 (a 0) (a 1) (a 2) (Pn P), arN X (a 1) 6 b, oX0 (a 2) (a 3) (a 4) (a 5) (Px P) (Pk P), arI X (a 3) 20 (Pa P), arI X (a 4) 20 (Pb P), arI X (a 5) 20 (Pd P)] ++ ((lsW b (PL P)))) A9 s9.heap H locs := hw
    exact lo_out hT9 hLk hK hAe hw hx1 hx2 hx3 rfl (Nat.le_of_ble_eq_true rfl) (Nat.le_of_ble_eq_true rfl) ⟨(Or.inl ⟨x2_0, x2_1⟩), rfl⟩
  obtain ⟨q2_0, rfl, rfl⟩ := hq
  have hw : lo_Wd X ([oX7 xo xi isz (a 0) xh xs sv xr xt xl xa xc, oX2 xa (A0 0) (A0 1) (A0 2) (A0 3) (A0 4) (A0 5) (A0 6) (A0 7) (A0 8) (A0 9), oX3 (a 0) (a 1) (a 2) (Pn P), arN X (a 1) 6 b, oX0 (a 2) (a 3) (a 4) (a 5) (Px P) (Pk P), arI X (a 3) 20 (Pa P), arI X (a 4) 20 (Pb P), arI X (a 5) 20 (Pd P)] ++ ((lsW b (PL P)))) A9 s9.heap H locs := hw
  refine W.eq (g2 := F0 m9 5 ls [.ref (b i.toNat)]) rfl ?_
  have hLi := hL i.toNat (by omega)
  obtain ⟨⟨hb0, hb1⟩, ⟨hr0, hr1⟩, ⟨hc0, hc1⟩, ⟨hm0, hm1⟩, ⟨hi0, hi1⟩, ⟨hs0, hs1⟩, hop, hcl⟩ := id hLi
  refine lv_astore_n (lv' := [(3, .ref (b i.toNat)), (0, .ref xo), (1, .int (iI i)), (2, .int (iI k))]) Ex Eb dX7_paymentsTo_5 rfl hl (by decide) rfl (fun ls hl => ?_)
  refine lv_iload_n Ex Eb dX7_paymentsTo_6 rfl (lv_at hl 3 rfl) ?_
  refine lv_iconst (v := iI 0) Ex Eb dX7_paymentsTo_7 rfl ?_
  refine lo_ldc (z := 9999999) E hc103 dX7_paymentsTo_8 rfl ?_
  refine lo_callST (rest := []) E hK hw hV (kX7_requireRange l X kS hst k 0 9999999 (by omega) (by omega) (by omega)) (cwS 3 E.2.2.2.2 gX7_paymentsTo_X7_requireRange rfl rfl rfl (by decide +kernel) ⟨Nat.le_of_ble_eq_true rfl, Nat.le_of_ble_eq_true rfl⟩) [] rfl (by decide) hl.1 rfl rfl (Nat.le_of_ble_eq_true rfl) dX7_paymentsTo_10 ⟨Nat.le_of_ble_eq_true rfl, Nat.le_of_ble_eq_true rfl⟩ (fun E9 ce9 q9 w1 H locs hq hw hx1 hx2 hx3 => ?_) (fun v w1 H locs hq hw => ?_)
  · obtain ⟨x10_0, x10_1, rfl⟩ := hq
    have hw : lo_Wd X ([oX7 xo xi isz (a 0) xh xs sv xr xt xl xa xc, oX2 xa (A0 0) (A0 1) (A0 2) (A0 3) (A0 4) (A0 5) (A0 6) (A0 7) (A0 8) (A0 9), oX3 (a 0) (a 1) (a 2) (Pn P), arN X (a 1) 6 b, oX0 (a 2) (a 3) (a 4) (a 5) (Px P) (Pk P), arI X (a 3) 20 (Pa P), arI X (a 4) 20 (Pb P), arI X (a 5) 20 (Pd P)] ++ ((lsW b (PL P)))) A9 s9.heap H locs := hw
    exact lo_out hT9 hLk hK hAe hw hx1 hx2 hx3 rfl (Nat.le_of_ble_eq_true rfl) (Nat.le_of_ble_eq_true rfl) ⟨(Or.inr ⟨x10_0, by omega, x10_1⟩), rfl⟩
  obtain ⟨q10_0, rfl, rfl⟩ := hq
  have hw : lo_Wd X ([oX7 xo xi isz (a 0) xh xs sv xr xt xl xa xc, oX2 xa (A0 0) (A0 1) (A0 2) (A0 3) (A0 4) (A0 5) (A0 6) (A0 7) (A0 8) (A0 9), oX3 (a 0) (a 1) (a 2) (Pn P), arN X (a 1) 6 b, oX0 (a 2) (a 3) (a 4) (a 5) (Px P) (Pk P), arI X (a 3) 20 (Pa P), arI X (a 4) 20 (Pb P), arI X (a 5) 20 (Pd P)] ++ ((lsW b (PL P)))) A9 s9.heap H locs := hw
  refine W.eq (g2 := F0 m9 13 ls []) rfl ?_
  refine lv_aload_n Ex Eb dX7_paymentsTo_13 rfl (lv_at hl 1 rfl) ?_
  refine lv_aload_n Ex Eb dX7_paymentsTo_14 rfl (lv_at hl 0 rfl) ?_
  refine lv_iload_n Ex Eb dX7_paymentsTo_15 rfl (lv_at hl 3 rfl) ?_
  refine lo_callV (q0 := 0) (rest := []) E hK hw (kX7_paymentsUntil l X xo xi xh xs xr xt xl xa xc isz sv (a 0) (b i.toNat) A0 (PL P i.toNat) k (hLi) (by omega)) (cwV 2 E.2.2.2.2 gX7_paymentsTo_X7_paymentsUntil rfl rfl rfl (by decide +kernel) ⟨Nat.le_of_ble_eq_true rfl, Nat.le_of_ble_eq_true rfl⟩) rfl rfl [0, 1, 8 + i.toNat] (lo_ps_cons rfl (lo_ps_cons rfl (lo_ps_cons (lsW_atE (k := 8) rfl (by omega)) lo_ps_nil))) (by simp [va_nd]; try omega) hl.1 rfl rfl (Nat.le_of_ble_eq_true rfl) dX7_paymentsTo_16 ⟨Nat.le_of_ble_eq_true rfl, Nat.le_of_ble_eq_true rfl⟩ (fun v w1 H locs hq hw => ?_)
  obtain ⟨A91, q16_0, rfl, rfl⟩ := hq
  have hw := lo_cast (lsW_k (k := 8) (ps := [0, 1]) (w1 := [oX7 xo xi isz (a 0) xh xs sv xr xt xl xa xc, oX2 xa (A91 0) (A91 1) (A91 2) (A91 3) (A91 4) (A91 5) (A91 6) (A91 7) (A91 8) (A91 9)]) rfl (by omega) (by decide) rfl rfl) hw
  have hw : lo_Wd X ([oX7 xo xi isz (a 0) xh xs sv xr xt xl xa xc, oX2 xa (A91 0) (A91 1) (A91 2) (A91 3) (A91 4) (A91 5) (A91 6) (A91 7) (A91 8) (A91 9), oX3 (a 0) (a 1) (a 2) (Pn P), arN X (a 1) 6 b, oX0 (a 2) (a 3) (a 4) (a 5) (Px P) (Pk P), arI X (a 3) 20 (Pa P), arI X (a 4) 20 (Pb P), arI X (a 5) 20 (Pd P)] ++ ((lsW b (PL P)))) A9 s9.heap H locs := hw
  refine W.eq (g2 := F0 m9 19 ls [.int (iI (untL 120 (PL P i.toNat) k))]) rfl ?_
  refine vx_ret ?_
  exact lo_iret E hRt hLk hK hAe hw dX7_paymentsTo_19 rfl ⟨A91, (by omega), (by omega), rfl, rfl⟩
