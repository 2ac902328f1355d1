set_option maxHeartbeats 4000000 in
set_option maxRecDepth 100000 in
theorem kX7_interestToCome (l : Launch) (X : KX) (xo xi xh xs xr xt xl xa xc : Nat) (isz sv : Int) (xp ah : Nat) (A0 L : Nat → Int) (hLI : LI L) : CM l X yX7_interestToCome wsX7_interestToCome ({ frames := 3, cells := 0, slots := 0, locals := 67 }) [.ref xo, .ref ah] ([oX7 xo xi isz xp xh xs sv xr xt xl xa xc, oX2 xa (A0 0) (A0 1) (A0 2) (A0 3) (A0 4) (A0 5) (A0 6) (A0 7) (A0 8) (A0 9), oX2 ah (L 0) (L 1) (L 2) (L 3) (L 4) (L 5) (L 6) (L 7) (L 8) (L 9)]) (fun v9 w9 => v9 = some (.int (iI (runL 120 L 6 - L 6))) ∧ w9 = [oX7 xo xi isz xp xh xs sv xr xt xl xa xc, oX2 xa (runL 120 L 0) (runL 120 L 1) (runL 120 L 2) (runL 120 L 3) (runL 120 L 4) (runL 120 L 5) (runL 120 L 6) (runL 120 L 7) (runL 120 L 8) (runL 120 L 9), oX2 ah (L 0) (L 1) (L 2) (L 3) (L 4) (L 5) (L 6) (L 7) (L 8) (L 9)]) 0 0 := by
  refine lo_enter (cc := cX7_interestToCome) (maxL := 2) (ret := (some .int)) (lv := [(0, .ref xo), (1, .ref ah)]) (by decide) rfl rfl (Nat.le_of_ble_eq_true rfl) ?_
  intro p9 e9 s9 m9 bl9 me9 c9 A9 ls hAe E hRt hLk hK hl hw
  have Ex := E.1
  have Eb := E.2.1
  have huRX7 : ∀ w ∈ u_ws RX7 TX7 11, w ∈ wsX7_interestToCome := by decide +kernel
  have hf55 : (Cond.fieldLink RX7 55 "LoanSchedule" "aheadLoan" "LLoanSchedule$Loan;").before _ s9 = true := E.2.2.2.2 _ (List.mem_of_getElem? (i := 1) rfl)
  have huRX2 : ∀ w ∈ u_ws RX2 TX2 10, w ∈ wsX7_interestToCome := by decide +kernel
  have hf197 : (Cond.fieldLink RX7 197 "LoanSchedule$Loan" "interestSum" "I").before _ s9 = true := E.2.2.2.2 _ (List.mem_of_getElem? (i := 2) rfl)
  refine lv_aload_n Ex Eb dX7_interestToCome_0 rfl (lv_at hl 0 rfl) ?_
  refine lo_get E hK hw huRX7 9 hf55 rfl 0 rfl rfl (by decide) (v := .ref xa) rfl dX7_interestToCome_1 ?_
  refine lv_aload_n Ex Eb dX7_interestToCome_4 rfl (lv_at hl 1 rfl) ?_
  refine lo_callV (q0 := 1) (rest := []) E hK hw (kX2_copyFrom l X xa ah A0 L ) (cwV 1 E.2.2.2.2 gX7_interestToCome_X2_copyFrom rfl rfl rfl (by decide +kernel) ⟨Nat.le_of_ble_eq_true rfl, Nat.le_of_ble_eq_true rfl⟩) rfl rfl [1, 2] rfl (by decide) hl.1 rfl rfl (Nat.le_of_ble_eq_true rfl) dX7_interestToCome_5 ⟨Nat.le_of_ble_eq_true rfl, Nat.le_of_ble_eq_true rfl⟩ (fun v w1 H locs hq hw => ?_)
  obtain ⟨rfl, rfl⟩ := hq
  have hw : lo_Wd X ([oX7 xo xi isz xp xh xs sv xr xt xl xa xc, oX2 xa (L 0) (L 1) (L 2) (L 3) (L 4) (L 5) (L 6) (L 7) (L 8) (L 9), oX2 ah (L 0) (L 1) (L 2) (L 3) (L 4) (L 5) (L 6) (L 7) (L 8) (L 9)]) A9 s9.heap H locs := hw
  refine W.eq (g2 := F0 m9 8 ls []) rfl ?_
  refine lv_aload_n Ex Eb dX7_interestToCome_8 rfl (lv_at hl 0 rfl) ?_
  refine lo_get E hK hw huRX7 9 hf55 rfl 0 rfl rfl (by decide) (v := .ref xa) rfl dX7_interestToCome_9 ?_
  refine lv_bipush (v := iI 120) Ex Eb dX7_interestToCome_12 rfl ?_
  refine lo_callV (q0 := 1) (rest := []) E hK hw (kX2_settleMonths l X xa L 120 (hLI) (by omega)) (cwV 1 E.2.2.2.2 gX7_interestToCome_X2_settleMonths rfl rfl rfl (by decide +kernel) ⟨Nat.le_of_ble_eq_true rfl, Nat.le_of_ble_eq_true rfl⟩) rfl rfl [1] rfl (by decide) hl.1 rfl rfl (Nat.le_of_ble_eq_true rfl) dX7_interestToCome_14 ⟨Nat.le_of_ble_eq_true rfl, Nat.le_of_ble_eq_true rfl⟩ (fun v w1 H locs hq hw => ?_)
  obtain ⟨rfl, rfl⟩ := hq
  have hw : lo_Wd X ([oX7 xo xi isz xp xh xs sv xr xt xl xa xc, oX2 xa (runL 120 L 0) (runL 120 L 1) (runL 120 L 2) (runL 120 L 3) (runL 120 L 4) (runL 120 L 5) (runL 120 L 6) (runL 120 L 7) (runL 120 L 8) (runL 120 L 9), oX2 ah (L 0) (L 1) (L 2) (L 3) (L 4) (L 5) (L 6) (L 7) (L 8) (L 9)]) A9 s9.heap H locs := hw
  refine W.eq (g2 := F0 m9 17 ls [.int (iI (lastL 120 L 0))]) rfl ?_
  refine lv_pop Ex Eb dX7_interestToCome_17 rfl ?_
  refine lv_aload_n Ex Eb dX7_interestToCome_18 rfl (lv_at hl 0 rfl) ?_
  refine lo_get E hK hw huRX7 9 hf55 rfl 0 rfl rfl (by decide) (v := .ref xa) rfl dX7_interestToCome_19 ?_
  refine lo_get E hK hw huRX2 6 hf197 rfl 1 rfl rfl (by decide) (v := .int (iI (runL 120 L 6))) rfl dX7_interestToCome_22 ?_
  refine lv_aload_n Ex Eb dX7_interestToCome_25 rfl (lv_at hl 1 rfl) ?_
  refine lo_get E hK hw huRX2 6 hf197 rfl 2 rfl rfl (by decide) (v := .int (iI (L 6))) rfl dX7_interestToCome_26 ?_
  refine lo_isub E dX7_interestToCome_29 ?_
  exact lo_iret E hRt hLk hK hAe hw dX7_interestToCome_30 rfl ⟨rfl, rfl⟩
set_option maxHeartbeats 4000000 in
set_option maxRecDepth 100000 in
theorem kX7_lastPayment (l : Launch) (X : KX) (xo xi xh xs xr xt xl xa xc : Nat) (isz sv : Int) (xp ah : Nat) (A0 L : Nat → Int) (hLI : LI L) : CM l X yX7_lastPayment wsX7_lastPayment ({ frames := 3, cells := 0, slots := 0, locals := 67 }) [.ref xo, .ref ah] ([oX7 xo xi isz xp xh xs sv xr xt xl xa xc, oX2 xa (A0 0) (A0 1) (A0 2) (A0 3) (A0 4) (A0 5) (A0 6) (A0 7) (A0 8) (A0 9), oX2 ah (L 0) (L 1) (L 2) (L 3) (L 4) (L 5) (L 6) (L 7) (L 8) (L 9)]) (fun v9 w9 => v9 = some (.int (iI (lastL 120 L 0))) ∧ w9 = [oX7 xo xi isz xp xh xs sv xr xt xl xa xc, oX2 xa (runL 120 L 0) (runL 120 L 1) (runL 120 L 2) (runL 120 L 3) (runL 120 L 4) (runL 120 L 5) (runL 120 L 6) (runL 120 L 7) (runL 120 L 8) (runL 120 L 9), oX2 ah (L 0) (L 1) (L 2) (L 3) (L 4) (L 5) (L 6) (L 7) (L 8) (L 9)]) 0 0 := by
  refine lo_enter (cc := cX7_lastPayment) (maxL := 2) (ret := (some .int)) (lv := [(0, .ref xo), (1, .ref ah)]) (by decide) rfl rfl (Nat.le_of_ble_eq_true rfl) ?_
  intro p9 e9 s9 m9 bl9 me9 c9 A9 ls hAe E hRt hLk hK hl hw
  have Ex := E.1
  have Eb := E.2.1
  have huRX7 : ∀ w ∈ u_ws RX7 TX7 11, w ∈ wsX7_lastPayment := by decide +kernel
  have hf55 : (Cond.fieldLink RX7 55 "LoanSchedule" "aheadLoan" "LLoanSchedule$Loan;").before _ s9 = true := E.2.2.2.2 _ (List.mem_of_getElem? (i := 1) rfl)
  refine lv_aload_n Ex Eb dX7_lastPayment_0 rfl (lv_at hl 0 rfl) ?_
  refine lo_get E hK hw huRX7 9 hf55 rfl 0 rfl rfl (by decide) (v := .ref xa) rfl dX7_lastPayment_1 ?_
  refine lv_aload_n Ex Eb dX7_lastPayment_4 rfl (lv_at hl 1 rfl) ?_
  refine lo_callV (q0 := 1) (rest := []) E hK hw (kX2_copyFrom l X xa ah A0 L ) (cwV 1 E.2.2.2.2 gX7_lastPayment_X2_copyFrom rfl rfl rfl (by decide +kernel) ⟨Nat.le_of_ble_eq_true rfl, Nat.le_of_ble_eq_true rfl⟩) rfl rfl [1, 2] rfl (by decide) hl.1 rfl rfl (Nat.le_of_ble_eq_true rfl) dX7_lastPayment_5 ⟨Nat.le_of_ble_eq_true rfl, Nat.le_of_ble_eq_true rfl⟩ (fun v w1 H locs hq hw => ?_)
  obtain ⟨rfl, rfl⟩ := hq
  have hw : lo_Wd X ([oX7 xo xi isz xp xh xs sv xr xt xl xa xc, oX2 xa (L 0) (L 1) (L 2) (L 3) (L 4) (L 5) (L 6) (L 7) (L 8) (L 9), oX2 ah (L 0) (L 1) (L 2) (L 3) (L 4) (L 5) (L 6) (L 7) (L 8) (L 9)]) A9 s9.heap H locs := hw
  refine W.eq (g2 := F0 m9 8 ls []) rfl ?_
  refine lv_aload_n Ex Eb dX7_lastPayment_8 rfl (lv_at hl 0 rfl) ?_
  refine lo_get E hK hw huRX7 9 hf55 rfl 0 rfl rfl (by decide) (v := .ref xa) rfl dX7_lastPayment_9 ?_
  refine lv_bipush (v := iI 120) Ex Eb dX7_lastPayment_12 rfl ?_
  refine lo_callV (q0 := 1) (rest := []) E hK hw (kX2_settleMonths l X xa L 120 (hLI) (by omega)) (cwV 1 E.2.2.2.2 gX7_lastPayment_X2_settleMonths rfl rfl rfl (by decide +kernel) ⟨Nat.le_of_ble_eq_true rfl, Nat.le_of_ble_eq_true rfl⟩) rfl rfl [1] rfl (by decide) hl.1 rfl rfl (Nat.le_of_ble_eq_true rfl) dX7_lastPayment_14 ⟨Nat.le_of_ble_eq_true rfl, Nat.le_of_ble_eq_true rfl⟩ (fun v w1 H locs hq hw => ?_)
  obtain ⟨rfl, rfl⟩ := hq
  have hw : lo_Wd X ([oX7 xo xi isz xp xh xs sv xr xt xl xa xc, oX2 xa (runL 120 L 0) (runL 120 L 1) (runL 120 L 2) (runL 120 L 3) (runL 120 L 4) (runL 120 L 5) (runL 120 L 6) (runL 120 L 7) (runL 120 L 8) (runL 120 L 9), oX2 ah (L 0) (L 1) (L 2) (L 3) (L 4) (L 5) (L 6) (L 7) (L 8) (L 9)]) A9 s9.heap H locs := hw
  refine W.eq (g2 := F0 m9 17 ls [.int (iI (lastL 120 L 0))]) rfl ?_
  exact lo_iret E hRt hLk hK hAe hw dX7_lastPayment_17 rfl ⟨rfl, rfl⟩
set_option maxHeartbeats 4000000 in
set_option maxRecDepth 100000 in
theorem kX7_interestAhead (l : Launch) (X : KX) (kS : Nat → Nat) (hst : l.stackTraces = false) (xo xi xh xs xr xt xl xa xc : Nat) (isz sv : Int) (A0 : Nat → Int) (a b : Nat → Nat) (P : PT) (i : Int) (hPI : PI P) (hi9 : i32 i) : CT l X kS yX7_interestAhead wsX7_interestAhead ({ frames := 7, cells := 1, slots := 6, locals := 121 }) [.ref xo, .int (iI i)] ([oX7 xo xi isz (a 0) xh xs sv xr xt xl xa xc, oX2 xa (A0 0) (A0 1) (A0 2) (A0 3) (A0 4) (A0 5) (A0 6) (A0 7) (A0 8) (A0 9), oX3 (a 0) (a 1) (a 2) (Pn P), arN X (a 1) 6 b, oX0 (a 2) (a 3) (a 4) (a 5) (Px P) (Pk P), arI X (a 3) 20 (Pa P), arI X (a 4) 20 (Pb P), arI X (a 5) 20 (Pd P)] ++ ((lsW b (PL P)))) (fun v9 w9 => ∃ A9 : Nat → Int, (0 ≤ i ∧ i < Pn P) ∧ v9 = some (.int (iI (runL 120 (PL P i.toNat) 6 - PL P i.toNat 6))) ∧ w9 = [oX7 xo xi isz (a 0) xh xs sv xr xt xl xa xc, oX2 xa (A9 0) (A9 1) (A9 2) (A9 3) (A9 4) (A9 5) (A9 6) (A9 7) (A9 8) (A9 9), oX3 (a 0) (a 1) (a 2) (Pn P), arN X (a 1) 6 b, oX0 (a 2) (a 3) (a 4) (a 5) (Px P) (Pk P), arI X (a 3) 20 (Pa P), arI X (a 4) 20 (Pb P), arI X (a 5) 20 (Pd P)] ++ ((lsW b (PL P)))) (fun E9 w9 => (E9 = "java/lang/IndexOutOfBoundsException") ∧ (¬ (0 ≤ i ∧ i < Pn P)) ∧ w9 = [oX7 xo xi isz (a 0) xh xs sv xr xt xl xa xc, oX2 xa (A0 0) (A0 1) (A0 2) (A0 3) (A0 4) (A0 5) (A0 6) (A0 7) (A0 8) (A0 9), oX3 (a 0) (a 1) (a 2) (Pn P), arN X (a 1) 6 b, oX0 (a 2) (a 3) (a 4) (a 5) (Px P) (Pk P), arI X (a 3) 20 (Pa P), arI X (a 4) 20 (Pb P), arI X (a 5) 20 (Pd P)] ++ ((lsW b (PL P)))) 1 6 := by
  refine lo_enterT (cc := cX7_interestAhead) (maxL := 2) (ret := (some .int)) (lv := [(0, .ref xo), (1, .int (iI i))]) (by decide) rfl rfl (Nat.le_of_ble_eq_true rfl) ?_
  intro p9 e9 s9 m9 bl9 me9 c9 A9 ls hAe E hRt hLk hK hl hw hV hT9
  have Ex := E.1
  have Eb := E.2.1
  obtain ⟨⟨hn0, hn1⟩, ⟨hx0, hx1⟩, ⟨hk0, hk1⟩, hL⟩ := id hPI
  refine lv_aload_n Ex Eb dX7_interestAhead_0 rfl (lv_at hl 0 rfl) ?_
  refine lv_aload_n Ex Eb dX7_interestAhead_1 rfl (lv_at hl 0 rfl) ?_
  refine lv_iload_n Ex Eb dX7_interestAhead_2 rfl (lv_at hl 1 rfl) ?_
  refine lo_callVT (q0 := 0) (rest := [.ref xo]) E hK hw hV (kX7_loanAt l X kS hst xo xi xh xs xr xt xl xa xc isz sv a b P i (by omega) (by omega)) (cwV 1 E.2.2.2.2 gX7_interestAhead_X7_loanAt rfl rfl rfl (by decide +kernel) ⟨Nat.le_of_ble_eq_true rfl, Nat.le_of_ble_eq_true rfl⟩) rfl rfl [0, 2, 3, 4, 5, 6, 7, 8, 9, 10, 11, 12, 13] rfl (by decide) hl.1 rfl rfl (Nat.le_of_ble_eq_true rfl) dX7_interestAhead_3 ⟨Nat.le_of_ble_eq_true rfl, Nat.le_of_ble_eq_true rfl⟩ (fun E9 ce9 q9 w1 H locs hq hw hx1 hx2 hx3 => ?_) (fun v w1 H locs hq hw => ?_)
  · obtain ⟨x3_0, x3_1, rfl⟩ := hq
    have hw : lo_Wd X ([oX7 xo xi isz (a 0) xh xs sv xr xt xl xa xc, oX2 xa (A0 0) (A0 1) (A0 2) (A0 3) (A0 4) (A0 5) (A0 6) (A0 7) (A0 8) (A0 9), oX3 (a 0) (a 1) (a 2) (Pn P), arN X (a 1) 6 b, oX0 (a 2) (a 3) (a 4) (a 5) (Px P) (Pk P), arI X (a 3) 20 (Pa P), arI X (a 4) 20 (Pb P), arI X (a 5) 20 (Pd P)] ++ ((lsW b (PL P)))) A9 s9.heap H locs := hw
    exact lo_out hT9 hLk hK hAe hw hx1 hx2 hx3 rfl (Nat.le_of_ble_eq_true rfl) (Nat.le_of_ble_eq_true rfl) ⟨(x3_0), (x3_1), rfl⟩
  obtain ⟨q3_0, rfl, rfl⟩ := hq
  have hw : lo_Wd X ([oX7 xo xi isz (a 0) xh xs sv xr xt xl xa xc, oX2 xa (A0 0) (A0 1) (A0 2) (A0 3) (A0 4) (A0 5) (A0 6) (A0 7) (A0 8) (A0 9), oX3 (a 0) (a 1) (a 2) (Pn P), arN X (a 1) 6 b, oX0 (a 2) (a 3) (a 4) (a 5) (Px P) (Pk P), arI X (a 3) 20 (Pa P), arI X (a 4) 20 (Pb P), arI X (a 5) 20 (Pd P)] ++ ((lsW b (PL P)))) A9 s9.heap H locs := hw
  refine W.eq (g2 := F0 m9 6 ls [.ref (b i.toNat), .ref xo]) rfl ?_
  have hLi := hL i.toNat (by omega)
  obtain ⟨⟨hb0, hb1⟩, ⟨hr0, hr1⟩, ⟨hc0, hc1⟩, ⟨hm0, hm1⟩, ⟨hi0, hi1⟩, ⟨hs0, hs1⟩, hop, hcl⟩ := id hLi
  refine lo_callV (q0 := 0) (rest := []) E hK hw (kX7_interestToCome l X xo xi xh xs xr xt xl xa xc isz sv (a 0) (b i.toNat) A0 (PL P i.toNat) (hLi)) (cwV 1 E.2.2.2.2 gX7_interestAhead_X7_interestToCome rfl rfl rfl (by decide +kernel) ⟨Nat.le_of_ble_eq_true rfl, Nat.le_of_ble_eq_true rfl⟩) rfl rfl [0, 1, 8 + i.toNat] (lo_ps_cons rfl (lo_ps_cons rfl (lo_ps_cons (lsW_atE (k := 8) rfl (by omega)) lo_ps_nil))) (by simp [va_nd]; try omega) hl.1 rfl rfl (Nat.le_of_ble_eq_true rfl) dX7_interestAhead_6 ⟨Nat.le_of_ble_eq_true rfl, Nat.le_of_ble_eq_true rfl⟩ (fun v w1 H locs hq hw => ?_)
  obtain ⟨rfl, rfl⟩ := hq
  have hw := lo_cast (lsW_k (k := 8) (ps := [0, 1]) (w1 := [oX7 xo xi isz (a 0) xh xs sv xr xt xl xa xc, oX2 xa (runL 120 (PL P i.toNat) 0) (runL 120 (PL P i.toNat) 1) (runL 120 (PL P i.toNat) 2) (runL 120 (PL P i.toNat) 3) (runL 120 (PL P i.toNat) 4) (runL 120 (PL P i.toNat) 5) (runL 120 (PL P i.toNat) 6) (runL 120 (PL P i.toNat) 7) (runL 120 (PL P i.toNat) 8) (runL 120 (PL P i.toNat) 9)]) rfl (by omega) (by decide) rfl rfl) hw
  have hw : lo_Wd X ([oX7 xo xi isz (a 0) xh xs sv xr xt xl xa xc, oX2 xa (runL 120 (PL P i.toNat) 0) (runL 120 (PL P i.toNat) 1) (runL 120 (PL P i.toNat) 2) (runL 120 (PL P i.toNat) 3) (runL 120 (PL P i.toNat) 4) (runL 120 (PL P i.toNat) 5) (runL 120 (PL P i.toNat) 6) (runL 120 (PL P i.toNat) 7) (runL 120 (PL P i.toNat) 8) (runL 120 (PL P i.toNat) 9), oX3 (a 0) (a 1) (a 2) (Pn P), arN X (a 1) 6 b, oX0 (a 2) (a 3) (a 4) (a 5) (Px P) (Pk P), arI X (a 3) 20 (Pa P), arI X (a 4) 20 (Pb P), arI X (a 5) 20 (Pd P)] ++ ((lsW b (PL P)))) A9 s9.heap H locs := hw
  refine W.eq (g2 := F0 m9 9 ls [.int (iI (runL 120 (PL P i.toNat) 6 - (PL P i.toNat) 6))]) rfl ?_
  refine vx_ret ?_
  exact lo_iret E hRt hLk hK hAe hw dX7_interestAhead_9 rfl ⟨runL 120 (PL P i.toNat), (by omega), rfl, rfl⟩
set_option maxHeartbeats 4000000 in
set_option maxRecDepth 100000 in
theorem kX7_lastDue (l : Launch) (X : KX) (kS : Nat → Nat) (hst : l.stackTraces = false) (xo xi xh xs xr xt xl xa xc : Nat) (isz sv : Int) (A0 : Nat → Int) (a b : Nat → Nat) (P : PT) (i : Int) (hPI : PI P) (hi9 : i32 i) : CT l X kS yX7_lastDue wsX7_lastDue ({ frames := 7, cells := 1, slots := 6, locals := 121 }) [.ref xo, .int (iI i)] ([oX7 xo xi isz (a 0) xh xs sv xr xt xl xa xc, oX2 xa (A0 0) (A0 1) (A0 2) (A0 3) (A0 4) (A0 5) (A0 6) (A0 7) (A0 8) (A0 9), oX3 (a 0) (a 1) (a 2) (Pn P), arN X (a 1) 6 b, oX0 (a 2) (a 3) (a 4) (a 5) (Px P) (Pk P), arI X (a 3) 20 (Pa P), arI X (a 4) 20 (Pb P), arI X (a 5) 20 (Pd P)] ++ ((lsW b (PL P)))) (fun v9 w9 => ∃ A9 : Nat → Int, (0 ≤ i ∧ i < Pn P) ∧ v9 = some (.int (iI (lastL 120 (PL P i.toNat) 0))) ∧ w9 = [oX7 xo xi isz (a 0) xh xs sv xr xt xl xa xc, oX2 xa (A9 0) (A9 1) (A9 2) (A9 3) (A9 4) (A9 5) (A9 6) (A9 7) (A9 8) (A9 9), oX3 (a 0) (a 1) (a 2) (Pn P), arN X (a 1) 6 b, oX0 (a 2) (a 3) (a 4) (a 5) (Px P) (Pk P), arI X (a 3) 20 (Pa P), arI X (a 4) 20 (Pb P), arI X (a 5) 20 (Pd P)] ++ ((lsW b (PL P)))) (fun E9 w9 => (E9 = "java/lang/IndexOutOfBoundsException") ∧ (¬ (0 ≤ i ∧ i < Pn P)) ∧ w9 = [oX7 xo xi isz (a 0) xh xs sv xr xt xl xa xc, oX2 xa (A0 0) (A0 1) (A0 2) (A0 3) (A0 4) (A0 5) (A0 6) (A0 7) (A0 8) (A0 9), oX3 (a 0) (a 1) (a 2) (Pn P), arN X (a 1) 6 b, oX0 (a 2) (a 3) (a 4) (a 5) (Px P) (Pk P), arI X (a 3) 20 (Pa P), arI X (a 4) 20 (Pb P), arI X (a 5) 20 (Pd P)] ++ ((lsW b (PL P)))) 1 6 := by
  refine lo_enterT (cc := cX7_lastDue) (maxL := 2) (ret := (some .int)) (lv := [(0, .ref xo), (1, .int (iI i))]) (by decide) rfl rfl (Nat.le_of_ble_eq_true rfl) ?_
  intro p9 e9 s9 m9 bl9 me9 c9 A9 ls hAe E hRt hLk hK hl hw hV hT9
  have Ex := E.1
  have Eb := E.2.1
  obtain ⟨⟨hn0, hn1⟩, ⟨hx0, hx1⟩, ⟨hk0, hk1⟩, hL⟩ := id hPI
  refine lv_aload_n Ex Eb dX7_lastDue_0 rfl (lv_at hl 0 rfl) ?_
  refine lv_aload_n Ex Eb dX7_lastDue_1 rfl (lv_at hl 0 rfl) ?_
  refine lv_iload_n Ex Eb dX7_lastDue_2 rfl (lv_at hl 1 rfl) ?_
  refine lo_callVT (q0 := 0) (rest := [.ref xo]) E hK hw hV (kX7_loanAt l X kS hst xo xi xh xs xr xt xl xa xc isz sv a b P i (by omega) (by omega)) (cwV 1 E.2.2.2.2 gX7_lastDue_X7_loanAt rfl rfl rfl (by decide +kernel) ⟨Nat.le_of_ble_eq_true rfl, Nat.le_of_ble_eq_true rfl⟩) rfl rfl [0, 2, 3, 4, 5, 6, 7, 8, 9, 10, 11, 12, 13] rfl (by decide) hl.1 rfl rfl (Nat.le_of_ble_eq_true rfl) dX7_lastDue_3 ⟨Nat.le_of_ble_eq_true rfl, Nat.le_of_ble_eq_true rfl⟩ (fun E9 ce9 q9 w1 H locs hq hw hx1 hx2 hx3 => ?_) (fun v w1 H locs hq hw => ?_)
  · obtain ⟨x3_0, x3_1, rfl⟩ := hq
    have hw : lo_Wd X ([oX7 xo xi isz (a 0) xh xs sv xr xt xl xa xc, oX2 xa (A0 0) (A0 1) (A0 2) (A0 3) (A0 4) (A0 5) (A0 6) (A0 7) (A0 8) (A0 9), oX3 (a 0) (a 1) (a 2) (Pn P), arN X (a 1) 6 b, oX0 (a 2) (a 3) (a 4) (a 5) (Px P) (Pk P), arI X (a 3) 20 (Pa P), arI X (a 4) 20 (Pb P), arI X (a 5) 20 (Pd P)] ++ ((lsW b (PL P)))) A9 s9.heap H locs := hw
    exact lo_out hT9 hLk hK hAe hw hx1 hx2 hx3 rfl (Nat.le_of_ble_eq_true rfl) (Nat.le_of_ble_eq_true rfl) ⟨(x3_0), (x3_1), rfl⟩
  obtain ⟨q3_0, rfl, rfl⟩ := hq
  have hw : lo_Wd X ([oX7 xo xi isz (a 0) xh xs sv xr xt xl xa xc, oX2 xa (A0 0) (A0 1) (A0 2) (A0 3) (A0 4) (A0 5) (A0 6) (A0 7) (A0 8) (A0 9), oX3 (a 0) (a 1) (a 2) (Pn P), arN X (a 1) 6 b, oX0 (a 2) (a 3) (a 4) (a 5) (Px P) (Pk P), arI X (a 3) 20 (Pa P), arI X (a 4) 20 (Pb P), arI X (a 5) 20 (Pd P)] ++ ((lsW b (PL P)))) A9 s9.heap H locs := hw
  refine W.eq (g2 := F0 m9 6 ls [.ref (b i.toNat), .ref xo]) rfl ?_
  have hLi := hL i.toNat (by omega)
  obtain ⟨⟨hb0, hb1⟩, ⟨hr0, hr1⟩, ⟨hc0, hc1⟩, ⟨hm0, hm1⟩, ⟨hi0, hi1⟩, ⟨hs0, hs1⟩, hop, hcl⟩ := id hLi
  refine lo_callV (q0 := 0) (rest := []) E hK hw (kX7_lastPayment l X xo xi xh xs xr xt xl xa xc isz sv (a 0) (b i.toNat) A0 (PL P i.toNat) (hLi)) (cwV 1 E.2.2.2.2 gX7_lastDue_X7_lastPayment rfl rfl rfl (by decide +kernel) ⟨Nat.le_of_ble_eq_true rfl, Nat.le_of_ble_eq_true rfl⟩) rfl rfl [0, 1, 8 + i.toNat] (lo_ps_cons rfl (lo_ps_cons rfl (lo_ps_cons (lsW_atE (k := 8) rfl (by omega)) lo_ps_nil))) (by simp [va_nd]; try omega) hl.1 rfl rfl (Nat.le_of_ble_eq_true rfl) dX7_lastDue_6 ⟨Nat.le_of_ble_eq_true rfl, Nat.le_of_ble_eq_true rfl⟩ (fun v w1 H locs hq hw => ?_)
  obtain ⟨rfl, rfl⟩ := hq
  have hw := lo_cast (lsW_k (k := 8) (ps := [0, 1]) (w1 := [oX7 xo xi isz (a 0) xh xs sv xr xt xl xa xc, oX2 xa (runL 120 (PL P i.toNat) 0) (runL 120 (PL P i.toNat) 1) (runL 120 (PL P i.toNat) 2) (runL 120 (PL P i.toNat) 3) (runL 120 (PL P i.toNat) 4) (runL 120 (PL P i.toNat) 5) (runL 120 (PL P i.toNat) 6) (runL 120 (PL P i.toNat) 7) (runL 120 (PL P i.toNat) 8) (runL 120 (PL P i.toNat) 9)]) rfl (by omega) (by decide) rfl rfl) hw
  have hw : lo_Wd X ([oX7 xo xi isz (a 0) xh xs sv xr xt xl xa xc, oX2 xa (runL 120 (PL P i.toNat) 0) (runL 120 (PL P i.toNat) 1) (runL 120 (PL P i.toNat) 2) (runL 120 (PL P i.toNat) 3) (runL 120 (PL P i.toNat) 4) (runL 120 (PL P i.toNat) 5) (runL 120 (PL P i.toNat) 6) (runL 120 (PL P i.toNat) 7) (runL 120 (PL P i.toNat) 8) (runL 120 (PL P i.toNat) 9), oX3 (a 0) (a 1) (a 2) (Pn P), arN X (a 1) 6 b, oX0 (a 2) (a 3) (a 4) (a 5) (Px P) (Pk P), arI X (a 3) 20 (Pa P), arI X (a 4) 20 (Pb P), arI X (a 5) 20 (Pd P)] ++ ((lsW b (PL P)))) A9 s9.heap H locs := hw
  refine W.eq (g2 := F0 m9 9 ls [.int (iI (lastL 120 (PL P i.toNat) 0))]) rfl ?_
  refine vx_ret ?_
  exact lo_iret E hRt hLk hK hAe hw dX7_lastDue_9 rfl ⟨runL 120 (PL P i.toNat), (by omega), rfl, rfl⟩
