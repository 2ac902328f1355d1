set_option maxHeartbeats 4000000 in
set_option maxRecDepth 100000 in
theorem kX7_interestOfPayment (l : Launch) (X : KX) (kS : Nat → Nat) (hst : l.stackTraces = false) (xo xi xh xs xr xt xl xa xc : Nat) (n sv : Int) (A0 : Nat → Int) (a b : Nat → Nat) (P : PT) (i k : Int) (hPI : PI P) (hi9 : i32 i) (hk9 : i32 k) : CT l X kS yX7_interestOfPayment wsX7_interestOfPayment ({ frames := 7, cells := 2, slots := 12, locals := 122 }) [.ref xo, .int (iI i), .int (iI k)] ([oX7 xo xi n (a 0) xh xs sv xr xt xl xa xc, oX2 xa (A0 0) (A0 1) (A0 2) (A0 3) (A0 4) (A0 5) (A0 6) (A0 7) (A0 8) (A0 9), oX3 (a 0) (a 1) (a 2) (Pn P), arN X (a 1) 6 b, oX0 (a 2) (a 3) (a 4) (a 5) (Px P) (Pk P), arI X (a 3) 20 (Pa P), arI X (a 4) 20 (Pb P), arI X (a 5) 20 (Pd P)] ++ ((lsW b (PL P)))) (fun v9 w9 => ∃ A9 : Nat → Int, ∃ z : Int, (0 ≤ i ∧ i < Pn P) ∧ (1 ≤ k ∧ k ≤ 120) ∧ ((0 < (runL (k - 1).toNat (PL P i.toNat)) 1 ∧ z = fI ((runL (k - 1).toNat (PL P i.toNat)) 1) ((runL (k - 1).toNat (PL P i.toNat)) 2) ((runL (k - 1).toNat (PL P i.toNat)) 5)) ∨ ((runL (k - 1).toNat (PL P i.toNat)) 1 ≤ 0 ∧ z = -1)) ∧ v9 = some (.int (iI z)) ∧ w9 = [oX7 xo xi n (a 0) xh xs sv xr xt xl xa xc, oX2 xa (A9 0) (A9 1) (A9 2) (A9 3) (A9 4) (A9 5) (A9 6) (A9 7) (A9 8) (A9 9), oX3 (a 0) (a 1) (a 2) (Pn P), arN X (a 1) 6 b, oX0 (a 2) (a 3) (a 4) (a 5) (Px P) (Pk P), arI X (a 3) 20 (Pa P), arI X (a 4) 20 (Pb P), arI X (a 5) 20 (Pd P)] ++ ((lsW b (PL P)))) (fun E9 w9 => ∃ A9 : Nat → Int, ((E9 = "java/lang/IndexOutOfBoundsException" ∧ ¬ (0 ≤ i ∧ i < Pn P)) ∨ (E9 = "java/lang/IllegalArgumentException" ∧ (0 ≤ i ∧ i < Pn P) ∧ ¬ (1 ≤ k ∧ k ≤ 120))) ∧ w9 = [oX7 xo xi n (a 0) xh xs sv xr xt xl xa xc, oX2 xa (A9 0) (A9 1) (A9 2) (A9 3) (A9 4) (A9 5) (A9 6) (A9 7) (A9 8) (A9 9), oX3 (a 0) (a 1) (a 2) (Pn P), arN X (a 1) 6 b, oX0 (a 2) (a 3) (a 4) (a 5) (Px P) (Pk P), arI X (a 3) 20 (Pa P), arI X (a 4) 20 (Pb P), arI X (a 5) 20 (Pd P)] ++ ((lsW b (PL P)))) 2 12 := by
  refine lo_enterT (cc := cX7_interestOfPayment) (maxL := 3) (ret := (some .int)) (lv := [(0, .ref xo), (1, .int (iI i)), (2, .int (iI k))]) (by decide) rfl rfl (Nat.le_of_ble_eq_true rfl) ?_
  intro p9 e9 s9 m9 bl9 me9 c9 A9 ls hAe E hRt hLk hK hl hw hV hT9
  have Ex := E.1
  have Eb := E.2.1
  have huRX7 : ∀ w ∈ u_ws RX7 TX7 11, w ∈ wsX7_interestOfPayment := by decide +kernel
  have hf55 : (Cond.fieldLink RX7 55 "LoanSchedule" "aheadLoan" "LLoanSchedule$Loan;").before _ s9 = true := E.2.2.2.2 _ (List.mem_of_getElem? (i := 1) rfl)
  obtain ⟨⟨hn0, hn1⟩, ⟨hx0, hx1⟩, ⟨hk0, hk1⟩, hL⟩ := id hPI
  refine lv_aload_n Ex Eb dX7_interestOfPayment_0 rfl (lv_at hl 0 rfl) ?_
  refine lo_get E hK hw huRX7 9 hf55 rfl 0 rfl rfl (by decide) (v := .ref xa) rfl dX7_interestOfPayment_1 ?_
  refine lv_aload_n Ex Eb dX7_interestOfPayment_4 rfl (lv_at hl 0 rfl) ?_
  refine lv_iload_n Ex Eb dX7_interestOfPayment_5 rfl (lv_at hl 1 rfl) ?_
  refine lo_callVT (q0 := 0) (rest := [.ref xa]) E hK hw hV (kX7_loanAt l X kS hst xo xi xh xs xr xt xl xa xc n sv a b P i (by omega) (by omega)) (cwV 1 E.2.2.2.2 gX7_interestOfPayment_X7_loanAt rfl rfl rfl (by decide +kernel) ⟨Nat.le_of_ble_eq_true rfl, Nat.le_of_ble_eq_true rfl⟩) rfl rfl [0, 2, 3, 4, 5, 6, 7, 8, 9, 10, 11, 12, 13] rfl (by decide) hl.1 rfl rfl (Nat.le_of_ble_eq_true rfl) dX7_interestOfPayment_6 ⟨Nat.le_of_ble_eq_true rfl, Nat.le_of_ble_eq_true rfl⟩ (fun E9 ce9 q9 w1 H locs hq hw hx1 hx2 hx3 => ?_) (fun v w1 H locs hq hw => ?_)
  · obtain ⟨x6_0, x6_1, rfl⟩ := hq
    have hw : lo_Wd X ([oX7 xo xi n (a 0) xh xs sv xr xt xl xa xc, oX2 xa (A0 0) (A0 1) (A0 2) (A0 3) (A0 4) (A0 5) (A0 6) (A0 7) (A0 8) (A0 9), oX3 (a 0) (a 1) (a 2) (Pn P), arN X (a 1) 6 b, oX0 (a 2) (a 3) (a 4) (a 5) (Px P) (Pk P), arI X (a 3) 20 (Pa P), arI X (a 4) 20 (Pb P), arI X (a 5) 20 (Pd P)] ++ ((lsW b (PL P)))) A9 s9.heap H locs := hw
    exact lo_out hT9 hLk hK hAe hw hx1 hx2 hx3 rfl (Nat.le_of_ble_eq_true rfl) (Nat.le_of_ble_eq_true rfl) ⟨A0, (Or.inl ⟨x6_0, x6_1⟩), rfl⟩
  obtain ⟨q6_0, rfl, rfl⟩ := hq
  have hw : lo_Wd X ([oX7 xo xi n (a 0) xh xs sv xr xt xl xa xc, oX2 xa (A0 0) (A0 1) (A0 2) (A0 3) (A0 4) (A0 5) (A0 6) (A0 7) (A0 8) (A0 9), oX3 (a 0) (a 1) (a 2) (Pn P), arN X (a 1) 6 b, oX0 (a 2) (a 3) (a 4) (a 5) (Px P) (Pk P), arI X (a 3) 20 (Pa P), arI X (a 4) 20 (Pb P), arI X (a 5) 20 (Pd P)] ++ ((lsW b (PL P)))) A9 s9.heap H locs := hw
  refine W.eq (g2 := F0 m9 9 ls [.ref (b i.toNat), .ref xa]) rfl ?_
  have hLi := hL i.toNat (by omega)
  obtain ⟨⟨hb0, hb1⟩, ⟨hr0, hr1⟩, ⟨hc0, hc1⟩, ⟨hm0, hm1⟩, ⟨hi0, hi1⟩, ⟨hs0, hs1⟩, hop, hcl⟩ := id hLi
  refine lo_callV (q0 := 1) (rest := []) E hK hw (kX2_copyFrom l X xa (b i.toNat) A0 (PL P i.toNat) ) (cwV 1 E.2.2.2.2 gX7_interestOfPayment_X2_copyFrom rfl rfl rfl (by decide +kernel) ⟨Nat.le_of_ble_eq_true rfl, Nat.le_of_ble_eq_true rfl⟩) rfl rfl [1, 8 + i.toNat] (lo_ps_cons rfl (lo_ps_cons (lsW_atE (k := 8) rfl (by omega)) lo_ps_nil)) (by simp [va_nd]; try omega) hl.1 rfl rfl (Nat.le_of_ble_eq_true rfl) dX7_interestOfPayment_9 ⟨Nat.le_of_ble_eq_true rfl, Nat.le_of_ble_eq_true rfl⟩ (fun v w1 H locs hq hw => ?_)
  obtain ⟨rfl, rfl⟩ := hq
  have hw := lo_cast (lsW_k (k := 8) (ps := [1]) (w1 := [oX2 xa (PL P i.toNat 0) (PL P i.toNat 1) (PL P i.toNat 2) (PL P i.toNat 3) (PL P i.toNat 4) (PL P i.toNat 5) (PL P i.toNat 6) (PL P i.toNat 7) (PL P i.toNat 8) (PL P i.toNat 9)]) rfl (by omega) (by decide) rfl rfl) hw
  have hw : lo_Wd X ([oX7 xo xi n (a 0) xh xs sv xr xt xl xa xc, oX2 xa (PL P i.toNat 0) (PL P i.toNat 1) (PL P i.toNat 2) (PL P i.toNat 3) (PL P i.toNat 4) (PL P i.toNat 5) (PL P i.toNat 6) (PL P i.toNat 7) (PL P i.toNat 8) (PL P i.toNat 9), oX3 (a 0) (a 1) (a 2) (Pn P), arN X (a 1) 6 b, oX0 (a 2) (a 3) (a 4) (a 5) (Px P) (Pk P), arI X (a 3) 20 (Pa P), arI X (a 4) 20 (Pb P), arI X (a 5) 20 (Pd P)] ++ ((lsW b (PL P)))) A9 s9.heap H locs := hw
  refine W.eq (g2 := F0 m9 12 ls []) rfl ?_
  refine lv_iload_n Ex Eb dX7_interestOfPayment_12 rfl (lv_at hl 2 rfl) ?_
  refine lv_iconst (v := iI 1) Ex Eb dX7_interestOfPayment_13 rfl ?_
  refine lv_bipush (v := iI 120) Ex Eb dX7_interestOfPayment_14 rfl ?_
  refine lo_callST (rest := []) E hK hw hV (kX7_requireRange l X kS hst k 1 120 (by omega) (by omega) (by omega)) (cwS 3 E.2.2.2.2 gX7_interestOfPayment_X7_requireRange rfl rfl rfl (by decide +kernel) ⟨Nat.le_of_ble_eq_true rfl, Nat.le_of_ble_eq_true rfl⟩) [] rfl (by decide) hl.1 rfl rfl (Nat.le_of_ble_eq_true rfl) dX7_interestOfPayment_16 ⟨Nat.le_of_ble_eq_true rfl, Nat.le_of_ble_eq_true rfl⟩ (fun E9 ce9 q9 w1 H locs hq hw hx1 hx2 hx3 => ?_) (fun v w1 H locs hq hw => ?_)
  · obtain ⟨x16_0, x16_1, rfl⟩ := hq
    have hw : lo_Wd X ([oX7 xo xi n (a 0) xh xs sv xr xt xl xa xc, oX2 xa (PL P i.toNat 0) (PL P i.toNat 1) (PL P i.toNat 2) (PL P i.toNat 3) (PL P i.toNat 4) (PL P i.toNat 5) (PL P i.toNat 6) (PL P i.toNat 7) (PL P i.toNat 8) (PL P i.toNat 9), oX3 (a 0) (a 1) (a 2) (Pn P), arN X (a 1) 6 b, oX0 (a 2) (a 3) (a 4) (a 5) (Px P) (Pk P), arI X (a 3) 20 (Pa P), arI X (a 4) 20 (Pb P), arI X (a 5) 20 (Pd P)] ++ ((lsW b (PL P)))) A9 s9.heap H locs := hw
    exact lo_out hT9 hLk hK hAe hw hx1 hx2 hx3 rfl (Nat.le_of_ble_eq_true rfl) (Nat.le_of_ble_eq_true rfl) ⟨PL P i.toNat, (Or.inr ⟨x16_0, by omega, x16_1⟩), rfl⟩
  obtain ⟨q16_0, rfl, rfl⟩ := hq
  have hw : lo_Wd X ([oX7 xo xi n (a 0) xh xs sv xr xt xl xa xc, oX2 xa (PL P i.toNat 0) (PL P i.toNat 1) (PL P i.toNat 2) (PL P i.toNat 3) (PL P i.toNat 4) (PL P i.toNat 5) (PL P i.toNat 6) (PL P i.toNat 7) (PL P i.toNat 8) (PL P i.toNat 9), oX3 (a 0) (a 1) (a 2) (Pn P), arN X (a 1) 6 b, oX0 (a 2) (a 3) (a 4) (a 5) (Px P) (Pk P), arI X (a 3) 20 (Pa P), arI X (a 4) 20 (Pb P), arI X (a 5) 20 (Pd P)] ++ ((lsW b (PL P)))) A9 s9.heap H locs := hw
  refine W.eq (g2 := F0 m9 19 ls []) rfl ?_
  refine lv_aload_n Ex Eb dX7_interestOfPayment_19 rfl (lv_at hl 0 rfl) ?_
  refine lo_get E hK hw huRX7 9 hf55 rfl 0 rfl rfl (by decide) (v := .ref xa) rfl dX7_interestOfPayment_20 ?_
  refine lv_iload_n Ex Eb dX7_interestOfPayment_23 rfl (lv_at hl 2 rfl) ?_
  refine lv_iconst (v := iI 1) Ex Eb dX7_interestOfPayment_24 rfl ?_
  refine lo_isub E dX7_interestOfPayment_25 ?_
  refine lo_callV (q0 := 1) (rest := []) E hK hw (kX2_settleMonths l X xa (PL P i.toNat) (k - 1) (hLi) (by omega)) (cwV 1 E.2.2.2.2 gX7_interestOfPayment_X2_settleMonths rfl rfl rfl (by decide +kernel) ⟨Nat.le_of_ble_eq_true rfl, Nat.le_of_ble_eq_true rfl⟩) rfl rfl [1] rfl (by decide) hl.1 rfl rfl (Nat.le_of_ble_eq_true rfl) dX7_interestOfPayment_26 ⟨Nat.le_of_ble_eq_true rfl, Nat.le_of_ble_eq_true rfl⟩ (fun v w1 H locs hq hw => ?_)
  obtain ⟨rfl, rfl⟩ := hq
  have hw : lo_Wd X ([oX7 xo xi n (a 0) xh xs sv xr xt xl xa xc, oX2 xa (runL (k - 1).toNat (PL P i.toNat) 0) (runL (k - 1).toNat (PL P i.toNat) 1) (runL (k - 1).toNat (PL P i.toNat) 2) (runL (k - 1).toNat (PL P i.toNat) 3) (runL (k - 1).toNat (PL P i.toNat) 4) (runL (k - 1).toNat (PL P i.toNat) 5) (runL (k - 1).toNat (PL P i.toNat) 6) (runL (k - 1).toNat (PL P i.toNat) 7) (runL (k - 1).toNat (PL P i.toNat) 8) (runL (k - 1).toNat (PL P i.toNat) 9), oX3 (a 0) (a 1) (a 2) (Pn P), arN X (a 1) 6 b, oX0 (a 2) (a 3) (a 4) (a 5) (Px P) (Pk P), arI X (a 3) 20 (Pa P), arI X (a 4) 20 (Pb P), arI X (a 5) 20 (Pd P)] ++ ((lsW b (PL P)))) A9 s9.heap H locs := hw
  refine W.eq (g2 := F0 m9 29 ls [.int (iI (lastL (k - 1).toNat (PL P i.toNat) 0))]) rfl ?_
  refine lv_pop Ex Eb dX7_interestOfPayment_29 rfl ?_
  have hRL := runL_LI (k - 1).toNat (PL P i.toNat) hLi
  obtain ⟨⟨jb0, jb1⟩, ⟨jr0, jr1⟩, ⟨jc0, jc1⟩, ⟨jm0, jm1⟩, ⟨ji0, ji1⟩, ⟨js0, js1⟩, jop, jcl⟩ := id hRL
  refine lv_aload_n Ex Eb dX7_interestOfPayment_30 rfl (lv_at hl 0 rfl) ?_
  refine lo_get E hK hw huRX7 9 hf55 rfl 0 rfl rfl (by decide) (v := .ref xa) rfl dX7_interestOfPayment_31 ?_
  refine lo_callV (q0 := 1) (rest := []) E hK hw (kX2_isRunning l X xa (runL (k - 1).toNat (PL P i.toNat)) (by omega)) (cwV 0 E.2.2.2.2 gX7_interestOfPayment_X2_isRunning rfl rfl rfl (by decide +kernel) ⟨Nat.le_of_ble_eq_true rfl, Nat.le_of_ble_eq_true rfl⟩) rfl rfl [1] rfl (by decide) hl.1 rfl rfl (Nat.le_of_ble_eq_true rfl) dX7_interestOfPayment_34 ⟨Nat.le_of_ble_eq_true rfl, Nat.le_of_ble_eq_true rfl⟩ (fun v w1 H locs hq hw => ?_)
  obtain ⟨r1, q34_0, rfl, rfl⟩ := hq
  have hw : lo_Wd X ([oX7 xo xi n (a 0) xh xs sv xr xt xl xa xc, oX2 xa (runL (k - 1).toNat (PL P i.toNat) 0) (runL (k - 1).toNat (PL P i.toNat) 1) (runL (k - 1).toNat (PL P i.toNat) 2) (runL (k - 1).toNat (PL P i.toNat) 3) (runL (k - 1).toNat (PL P i.toNat) 4) (runL (k - 1).toNat (PL P i.toNat) 5) (runL (k - 1).toNat (PL P i.toNat) 6) (runL (k - 1).toNat (PL P i.toNat) 7) (runL (k - 1).toNat (PL P i.toNat) 8) (runL (k - 1).toNat (PL P i.toNat) 9), oX3 (a 0) (a 1) (a 2) (Pn P), arN X (a 1) 6 b, oX0 (a 2) (a 3) (a 4) (a 5) (Px P) (Pk P), arI X (a 3) 20 (Pa P), arI X (a 4) 20 (Pb P), arI X (a 5) 20 (Pd P)] ++ ((lsW b (PL P)))) A9 s9.heap H locs := hw
  refine W.eq (g2 := F0 m9 37 ls [.int (iI r1)]) rfl ?_
  refine lo_if_eq (tgt := 50) E dX7_interestOfPayment_37 (by decide) (by omega) (fun c2 => ?_) (fun c2 => ?_)
  · skip
    refine lv_iconst (v := iI (-1)) Ex Eb dX7_interestOfPayment_50 rfl ?_
    refine vx_ret ?_
    exact lo_iret E hRt hLk hK hAe hw dX7_interestOfPayment_51 rfl ⟨runL (k - 1).toNat (PL P i.toNat), -1, (by omega), (by omega), (by first | exact Or.inl ⟨by omega, rfl⟩ | exact Or.inr ⟨by omega, rfl⟩), rfl, rfl⟩
  · skip
    refine lv_aload_n Ex Eb dX7_interestOfPayment_40 rfl (lv_at hl 0 rfl) ?_
    refine lo_get E hK hw huRX7 9 hf55 rfl 0 rfl rfl (by decide) (v := .ref xa) rfl dX7_interestOfPayment_41 ?_
    refine lo_callV (q0 := 1) (rest := []) E hK hw (kX2_nextInterest l X xa (runL (k - 1).toNat (PL P i.toNat)) (by omega) (by omega) (by omega) (by omega) (by omega) (by omega)) (cwV 0 E.2.2.2.2 gX7_interestOfPayment_X2_nextInterest rfl rfl rfl (by decide +kernel) ⟨Nat.le_of_ble_eq_true rfl, Nat.le_of_ble_eq_true rfl⟩) rfl rfl [1] rfl (by decide) hl.1 rfl rfl (Nat.le_of_ble_eq_true rfl) dX7_interestOfPayment_44 ⟨Nat.le_of_ble_eq_true rfl, Nat.le_of_ble_eq_true rfl⟩ (fun v w1 H locs hq hw => ?_)
    obtain ⟨rfl, rfl⟩ := hq
    have hw : lo_Wd X ([oX7 xo xi n (a 0) xh xs sv xr xt xl xa xc, oX2 xa (runL (k - 1).toNat (PL P i.toNat) 0) (runL (k - 1).toNat (PL P i.toNat) 1) (runL (k - 1).toNat (PL P i.toNat) 2) (runL (k - 1).toNat (PL P i.toNat) 3) (runL (k - 1).toNat (PL P i.toNat) 4) (runL (k - 1).toNat (PL P i.toNat) 5) (runL (k - 1).toNat (PL P i.toNat) 6) (runL (k - 1).toNat (PL P i.toNat) 7) (runL (k - 1).toNat (PL P i.toNat) 8) (runL (k - 1).toNat (PL P i.toNat) 9), oX3 (a 0) (a 1) (a 2) (Pn P), arN X (a 1) 6 b, oX0 (a 2) (a 3) (a 4) (a 5) (Px P) (Pk P), arI X (a 3) 20 (Pa P), arI X (a 4) 20 (Pb P), arI X (a 5) 20 (Pd P)] ++ ((lsW b (PL P)))) A9 s9.heap H locs := hw
    refine W.eq (g2 := F0 m9 47 ls [.int (iI (fI (runL (k - 1).toNat (PL P i.toNat) 1) (runL (k - 1).toNat (PL P i.toNat) 2) (runL (k - 1).toNat (PL P i.toNat) 5)))]) rfl ?_
    refine lv_goto (tgt := 51) Ex Eb dX7_interestOfPayment_47 (by decide) ?_
    refine vx_ret ?_
    exact lo_iret E hRt hLk hK hAe hw dX7_interestOfPayment_51 rfl ⟨runL (k - 1).toNat (PL P i.toNat), fI (runL (k - 1).toNat (PL P i.toNat) 1) (runL (k - 1).toNat (PL P i.toNat) 2) (runL (k - 1).toNat (PL P i.toNat) 5), (by omega), (by omega), (by first | exact Or.inl ⟨by omega, rfl⟩ | exact Or.inr ⟨by omega, rfl⟩), rfl, rfl⟩
set_option maxHeartbeats 4000000 in
set_option maxRecDepth 100000 in
theorem kX7_amountOfPayment (l : Launch) (X : KX) (kS : Nat → Nat) (hst : l.stackTraces = false) (xo xi xh xs xr xt xl xa xc : Nat) (n sv : Int) (A0 : Nat → Int) (a b : Nat → Nat) (P : PT) (i k : Int) (hPI : PI P) (hi9 : i32 i) (hk9 : i32 k) : CT l X kS yX7_amountOfPayment wsX7_amountOfPayment ({ frames := 7, cells := 2, slots := 12, locals := 122 }) [.ref xo, .int (iI i), .int (iI k)] ([oX7 xo xi n (a 0) xh xs sv xr xt xl xa xc, oX2 xa (A0 0) (A0 1) (A0 2) (A0 3) (A0 4) (A0 5) (A0 6) (A0 7) (A0 8) (A0 9), oX3 (a 0) (a 1) (a 2) (Pn P), arN X (a 1) 6 b, oX0 (a 2) (a 3) (a 4) (a 5) (Px P) (Pk P), arI X (a 3) 20 (Pa P), arI X (a 4) 20 (Pb P), arI X (a 5) 20 (Pd P)] ++ ((lsW b (PL P)))) (fun v9 w9 => ∃ A9 : Nat → Int, ∃ z : Int, (0 ≤ i ∧ i < Pn P) ∧ (1 ≤ k ∧ k ≤ 120) ∧ ((0 < (runL (k - 1).toNat (PL P i.toNat)) 1 ∧ z = dueL (runL (k - 1).toNat (PL P i.toNat))) ∨ ((runL (k - 1).toNat (PL P i.toNat)) 1 ≤ 0 ∧ z = -1)) ∧ v9 = some (.int (iI z)) ∧ w9 = [oX7 xo xi n (a 0) xh xs sv xr xt xl xa xc, oX2 xa (A9 0) (A9 1) (A9 2) (A9 3) (A9 4) (A9 5) (A9 6) (A9 7) (A9 8) (A9 9), oX3 (a 0) (a 1) (a 2) (Pn P), arN X (a 1) 6 b, oX0 (a 2) (a 3) (a 4) (a 5) (Px P) (Pk P), arI X (a 3) 20 (Pa P), arI X (a 4) 20 (Pb P), arI X (a 5) 20 (Pd P)] ++ ((lsW b (PL P)))) (fun E9 w9 => ∃ A9 : Nat → Int, ((E9 = "java/lang/IndexOutOfBoundsException" ∧ ¬ (0 ≤ i ∧ i < Pn P)) ∨ (E9 = "java/lang/IllegalArgumentException" ∧ (0 ≤ i ∧ i < Pn P) ∧ ¬ (1 ≤ k ∧ k ≤ 120))) ∧ w9 = [oX7 xo xi n (a 0) xh xs sv xr xt xl xa xc, oX2 xa (A9 0) (A9 1) (A9 2) (A9 3) (A9 4) (A9 5) (A9 6) (A9 7) (A9 8) (A9 9), oX3 (a 0) (a 1) (a 2) (Pn P), arN X (a 1) 6 b, oX0 (a 2) (a 3) (a 4) (a 5) (Px P) (Pk P), arI X (a 3) 20 (Pa P), arI X (a 4) 20 (Pb P), arI X (a 5) 20 (Pd P)] ++ ((lsW b (PL P)))) 2 12 := by
  refine lo_enterT (cc := cX7_amountOfPayment) (maxL := 3) (ret := (some .int)) (lv := [(0, .ref xo), (1, .int (iI i)), (2, .int (iI k))]) (by decide) rfl rfl (Nat.le_of_ble_eq_true rfl) ?_
  intro p9 e9 s9 m9 bl9 me9 c9 A9 ls hAe E hRt hLk hK hl hw hV hT9
  have Ex := E.1
  have Eb := E.2.1
  have huRX7 : ∀ w ∈ u_ws RX7 TX7 11, w ∈ wsX7_amountOfPayment := by decide +kernel
  have hf55 : (Cond.fieldLink RX7 55 "LoanSchedule" "aheadLoan" "LLoanSchedule$Loan;").before _ s9 = true := E.2.2.2.2 _ (List.mem_of_getElem? (i := 1) rfl)
  obtain ⟨⟨hn0, hn1⟩, ⟨hx0, hx1⟩, ⟨hk0, hk1⟩, hL⟩ := id hPI
  refine lv_aload_n Ex Eb dX7_amountOfPayment_0 rfl (lv_at hl 0 rfl) ?_
  refine lo_get E hK hw huRX7 9 hf55 rfl 0 rfl rfl (by decide) (v := .ref xa) rfl dX7_amountOfPayment_1 ?_
  refine lv_aload_n Ex Eb dX7_amountOfPayment_4 rfl (lv_at hl 0 rfl) ?_
  refine lv_iload_n Ex Eb dX7_amountOfPayment_5 rfl (lv_at hl 1 rfl) ?_
  refine lo_callVT (q0 := 0) (rest := [.ref xa]) E hK hw hV (kX7_loanAt l X kS hst xo xi xh xs xr xt xl xa xc n sv a b P i (by omega) (by omega)) (cwV 1 E.2.2.2.2 gX7_amountOfPayment_X7_loanAt rfl rfl rfl (by decide +kernel) ⟨Nat.le_of_ble_eq_true rfl, Nat.le_of_ble_eq_true rfl⟩) rfl rfl [0, 2, 3, 4, 5, 6, 7, 8, 9, 10, 11, 12, 13] rfl (by decide) hl.1 rfl rfl (Nat.le_of_ble_eq_true rfl) dX7_amountOfPayment_6 ⟨Nat.le_of_ble_eq_true rfl, Nat.le_of_ble_eq_true rfl⟩ (fun E9 ce9 q9 w1 H locs hq hw hx1 hx2 hx3 => ?_) (fun v w1 H locs hq hw => ?_)
  · obtain ⟨x6_0, x6_1, rfl⟩ := hq
    have hw : lo_Wd X ([oX7 xo xi n (a 0) xh xs sv xr xt xl xa xc, oX2 xa (A0 0) (A0 1) (A0 2) (A0 3) (A0 4) (A0 5) (A0 6) (A0 7) (A0 8) (A0 9), oX3 (a 0) (a 1) (a 2) (Pn P), arN X (a 1) 6 b, oX0 (a 2) (a 3) (a 4) (a 5) (Px P) (Pk P), arI X (a 3) 20 (Pa P), arI X (a 4) 20 (Pb P), arI X (a 5) 20 (Pd P)] ++ ((lsW b (PL P)))) A9 s9.heap H locs := hw
    exact lo_out hT9 hLk hK hAe hw hx1 hx2 hx3 rfl (Nat.le_of_ble_eq_true rfl) (Nat.le_of_ble_eq_true rfl) ⟨A0, (Or.inl ⟨x6_0, x6_1⟩), rfl⟩
  obtain ⟨q6_0, rfl, rfl⟩ := hq
  have hw : lo_Wd X ([oX7 xo xi n (a 0) xh xs sv xr xt xl xa xc, oX2 xa (A0 0) (A0 1) (A0 2) (A0 3) (A0 4) (A0 5) (A0 6) (A0 7) (A0 8) (A0 9), oX3 (a 0) (a 1) (a 2) (Pn P), arN X (a 1) 6 b, oX0 (a 2) (a 3) (a 4) (a 5) (Px P) (Pk P), arI X (a 3) 20 (Pa P), arI X (a 4) 20 (Pb P), arI X (a 5) 20 (Pd P)] ++ ((lsW b (PL P)))) A9 s9.heap H locs := hw
  refine W.eq (g2 := F0 m9 9 ls [.ref (b i.toNat), .ref xa]) rfl ?_
  have hLi := hL i.toNat (by omega)
  obtain ⟨⟨hb0, hb1⟩, ⟨hr0, hr1⟩, ⟨hc0, hc1⟩, ⟨hm0, hm1⟩, ⟨hi0, hi1⟩, ⟨hs0, hs1⟩, hop, hcl⟩ := id hLi
  refine lo_callV (q0 := 1) (rest := []) E hK hw (kX2_copyFrom l X xa (b i.toNat) A0 (PL P i.toNat) ) (cwV 1 E.2.2.2.2 gX7_amountOfPayment_X2_copyFrom rfl rfl rfl (by decide +kernel) ⟨Nat.le_of_ble_eq_true rfl, Nat.le_of_ble_eq_true rfl⟩) rfl rfl [1, 8 + i.toNat] (lo_ps_cons rfl (lo_ps_cons (lsW_atE (k := 8) rfl (by omega)) lo_ps_nil)) (by simp [va_nd]; try omega) hl.1 rfl rfl (Nat.le_of_ble_eq_true rfl) dX7_amountOfPayment_9 ⟨Nat.le_of_ble_eq_true rfl, Nat.le_of_ble_eq_true rfl⟩ (fun v w1 H locs hq hw => ?_)
  obtain ⟨rfl, rfl⟩ := hq
  have hw := lo_cast (lsW_k (k := 8) (ps := [1]) (w1 := [oX2 xa (PL P i.toNat 0) (PL P i.toNat 1) (PL P i.toNat 2) (PL P i.toNat 3) (PL P i.toNat 4) (PL P i.toNat 5) (PL P i.toNat 6) (PL P i.toNat 7) (PL P i.toNat 8) (PL P i.toNat 9)]) rfl (by omega) (by decide) rfl rfl) hw
  have hw : lo_Wd X ([oX7 xo xi n (a 0) xh xs sv xr xt xl xa xc, oX2 xa (PL P i.toNat 0) (PL P i.toNat 1) (PL P i.toNat 2) (PL P i.toNat 3) (PL P i.toNat 4) (PL P i.toNat 5) (PL P i.toNat 6) (PL P i.toNat 7) (PL P i.toNat 8) (PL P i.toNat 9), oX3 (a 0) (a 1) (a 2) (Pn P), arN X (a 1) 6 b, oX0 (a 2) (a 3) (a 4) (a 5) (Px P) (Pk P), arI X (a 3) 20 (Pa P), arI X (a 4) 20 (Pb P), arI X (a 5) 20 (Pd P)] ++ ((lsW b (PL P)))) A9 s9.heap H locs := hw
  refine W.eq (g2 := F0 m9 12 ls []) rfl ?_
  refine lv_iload_n Ex Eb dX7_amountOfPayment_12 rfl (lv_at hl 2 rfl) ?_
  refine lv_iconst (v := iI 1) Ex Eb dX7_amountOfPayment_13 rfl ?_
  refine lv_bipush (v := iI 120) Ex Eb dX7_amountOfPayment_14 rfl ?_
  refine lo_callST (rest := []) E hK hw hV (kX7_requireRange l X kS hst k 1 120 (by omega) (by omega) (by omega)) (cwS 3 E.2.2.2.2 gX7_amountOfPayment_X7_requireRange rfl rfl rfl (by decide +kernel) ⟨Nat.le_of_ble_eq_true rfl, Nat.le_of_ble_eq_true rfl⟩) [] rfl (by decide) hl.1 rfl rfl (Nat.le_of_ble_eq_true rfl) dX7_amountOfPayment_16 ⟨Nat.le_of_ble_eq_true rfl, Nat.le_of_ble_eq_true rfl⟩ (fun E9 ce9 q9 w1 H locs hq hw hx1 hx2 hx3 => ?_) (fun v w1 H locs hq hw => ?_)
  · obtain ⟨x16_0, x16_1, rfl⟩ := hq
    have hw : lo_Wd X ([oX7 xo xi n (a 0) xh xs sv xr xt xl xa xc, oX2 xa (PL P i.toNat 0) (PL P i.toNat 1) (PL P i.toNat 2) (PL P i.toNat 3) (PL P i.toNat 4) (PL P i.toNat 5) (PL P i.toNat 6) (PL P i.toNat 7) (PL P i.toNat 8) (PL P i.toNat 9), oX3 (a 0) (a 1) (a 2) (Pn P), arN X (a 1) 6 b, oX0 (a 2) (a 3) (a 4) (a 5) (Px P) (Pk P), arI X (a 3) 20 (Pa P), arI X (a 4) 20 (Pb P), arI X (a 5) 20 (Pd P)] ++ ((lsW b (PL P)))) A9 s9.heap H locs := hw
    exact lo_out hT9 hLk hK hAe hw hx1 hx2 hx3 rfl (Nat.le_of_ble_eq_true rfl) (Nat.le_of_ble_eq_true rfl) ⟨PL P i.toNat, (Or.inr ⟨x16_0, by omega, x16_1⟩), rfl⟩
  obtain ⟨q16_0, rfl, rfl⟩ := hq
  have hw : lo_Wd X ([oX7 xo xi n (a 0) xh xs sv xr xt xl xa xc, oX2 xa (PL P i.toNat 0) (PL P i.toNat 1) (PL P i.toNat 2) (PL P i.toNat 3) (PL P i.toNat 4) (PL P i.toNat 5) (PL P i.toNat 6) (PL P i.toNat 7) (PL P i.toNat 8) (PL P i.toNat 9), oX3 (a 0) (a 1) (a 2) (Pn P), arN X (a 1) 6 b, oX0 (a 2) (a 3) (a 4) (a 5) (Px P) (Pk P), arI X (a 3) 20 (Pa P), arI X (a 4) 20 (Pb P), arI X (a 5) 20 (Pd P)] ++ ((lsW b (PL P)))) A9 s9.heap H locs := hw
  refine W.eq (g2 := F0 m9 19 ls []) rfl ?_
  refine lv_aload_n Ex Eb dX7_amountOfPayment_19 rfl (lv_at hl 0 rfl) ?_
  refine lo_get E hK hw huRX7 9 hf55 rfl 0 rfl rfl (by decide) (v := .ref xa) rfl dX7_amountOfPayment_20 ?_
  refine lv_iload_n Ex Eb dX7_amountOfPayment_23 rfl (lv_at hl 2 rfl) ?_
  refine lv_iconst (v := iI 1) Ex Eb dX7_amountOfPayment_24 rfl ?_
  refine lo_isub E dX7_amountOfPayment_25 ?_
  refine lo_callV (q0 := 1) (rest := []) E hK hw (kX2_settleMonths l X xa (PL P i.toNat) (k - 1) (hLi) (by omega)) (cwV 1 E.2.2.2.2 gX7_amountOfPayment_X2_settleMonths rfl rfl rfl (by decide +kernel) ⟨Nat.le_of_ble_eq_true rfl, Nat.le_of_ble_eq_true rfl⟩) rfl rfl [1] rfl (by decide) hl.1 rfl rfl (Nat.le_of_ble_eq_true rfl) dX7_amountOfPayment_26 ⟨Nat.le_of_ble_eq_true rfl, Nat.le_of_ble_eq_true rfl⟩ (fun v w1 H locs hq hw => ?_)
  obtain ⟨rfl, rfl⟩ := hq
  have hw : lo_Wd X ([oX7 xo xi n (a 0) xh xs sv xr xt xl xa xc, oX2 xa (runL (k - 1).toNat (PL P i.toNat) 0) (runL (k - 1).toNat (PL P i.toNat) 1) (runL (k - 1).toNat (PL P i.toNat) 2) (runL (k - 1).toNat (PL P i.toNat) 3) (runL (k - 1).toNat (PL P i.toNat) 4) (runL (k - 1).toNat (PL P i.toNat) 5) (runL (k - 1).toNat (PL P i.toNat) 6) (runL (k - 1).toNat (PL P i.toNat) 7) (runL (k - 1).toNat (PL P i.toNat) 8) (runL (k - 1).toNat (PL P i.toNat) 9), oX3 (a 0) (a 1) (a 2) (Pn P), arN X (a 1) 6 b, oX0 (a 2) (a 3) (a 4) (a 5) (Px P) (Pk P), arI X (a 3) 20 (Pa P), arI X (a 4) 20 (Pb P), arI X (a 5) 20 (Pd P)] ++ ((lsW b (PL P)))) A9 s9.heap H locs := hw
  refine W.eq (g2 := F0 m9 29 ls [.int (iI (lastL (k - 1).toNat (PL P i.toNat) 0))]) rfl ?_
  refine lv_pop Ex Eb dX7_amountOfPayment_29 rfl ?_
  have hRL := runL_LI (k - 1).toNat (PL P i.toNat) hLi
  obtain ⟨⟨jb0, jb1⟩, ⟨jr0, jr1⟩, ⟨jc0, jc1⟩, ⟨jm0, jm1⟩, ⟨ji0, ji1⟩, ⟨js0, js1⟩, jop, jcl⟩ := id hRL
  refine lv_aload_n Ex Eb dX7_amountOfPayment_30 rfl (lv_at hl 0 rfl) ?_
  refine lo_get E hK hw huRX7 9 hf55 rfl 0 rfl rfl (by decide) (v := .ref xa) rfl dX7_amountOfPayment_31 ?_
  refine lo_callV (q0 := 1) (rest := []) E hK hw (kX2_isRunning l X xa (runL (k - 1).toNat (PL P i.toNat)) (by omega)) (cwV 0 E.2.2.2.2 gX7_amountOfPayment_X2_isRunning rfl rfl rfl (by decide +kernel) ⟨Nat.le_of_ble_eq_true rfl, Nat.le_of_ble_eq_true rfl⟩) rfl rfl [1] rfl (by decide) hl.1 rfl rfl (Nat.le_of_ble_eq_true rfl) dX7_amountOfPayment_34 ⟨Nat.le_of_ble_eq_true rfl, Nat.le_of_ble_eq_true rfl⟩ (fun v w1 H locs hq hw => ?_)
  obtain ⟨r1, q34_0, rfl, rfl⟩ := hq
  have hw : lo_Wd X ([oX7 xo xi n (a 0) xh xs sv xr xt xl xa xc, oX2 xa (runL (k - 1).toNat (PL P i.toNat) 0) (runL (k - 1).toNat (PL P i.toNat) 1) (runL (k - 1).toNat (PL P i.toNat) 2) (runL (k - 1).toNat (PL P i.toNat) 3) (runL (k - 1).toNat (PL P i.toNat) 4) (runL (k - 1).toNat (PL P i.toNat) 5) (runL (k - 1).toNat (PL P i.toNat) 6) (runL (k - 1).toNat (PL P i.toNat) 7) (runL (k - 1).toNat (PL P i.toNat) 8) (runL (k - 1).toNat (PL P i.toNat) 9), oX3 (a 0) (a 1) (a 2) (Pn P), arN X (a 1) 6 b, oX0 (a 2) (a 3) (a 4) (a 5) (Px P) (Pk P), arI X (a 3) 20 (Pa P), arI X (a 4) 20 (Pb P), arI X (a 5) 20 (Pd P)] ++ ((lsW b (PL P)))) A9 s9.heap H locs := hw
  refine W.eq (g2 := F0 m9 37 ls [.int (iI r1)]) rfl ?_
  refine lo_if_eq (tgt := 50) E dX7_amountOfPayment_37 (by decide) (by omega) (fun c2 => ?_) (fun c2 => ?_)
  · skip
    refine lv_iconst (v := iI (-1)) Ex Eb dX7_amountOfPayment_50 rfl ?_
    refine vx_ret ?_
    exact lo_iret E hRt hLk hK hAe hw dX7_amountOfPayment_51 rfl ⟨runL (k - 1).toNat (PL P i.toNat), -1, (by omega), (by omega), (by first | exact Or.inl ⟨by omega, rfl⟩ | exact Or.inr ⟨by omega, rfl⟩), rfl, rfl⟩
  · skip
    refine lv_aload_n Ex Eb dX7_amountOfPayment_40 rfl (lv_at hl 0 rfl) ?_
    refine lo_get E hK hw huRX7 9 hf55 rfl 0 rfl rfl (by decide) (v := .ref xa) rfl dX7_amountOfPayment_41 ?_
    refine lo_callV (q0 := 1) (rest := []) E hK hw (kX2_nextDue l X xa (runL (k - 1).toNat (PL P i.toNat)) (by omega) (by omega) (by omega) (by omega) (by omega) (by omega) (by omega) (by omega)) (cwV 0 E.2.2.2.2 gX7_amountOfPayment_X2_nextDue rfl rfl rfl (by decide +kernel) ⟨Nat.le_of_ble_eq_true rfl, Nat.le_of_ble_eq_true rfl⟩) rfl rfl [1] rfl (by decide) hl.1 rfl rfl (Nat.le_of_ble_eq_true rfl) dX7_amountOfPayment_44 ⟨Nat.le_of_ble_eq_true rfl, Nat.le_of_ble_eq_true rfl⟩ (fun v w1 H locs hq hw => ?_)
    obtain ⟨rfl, rfl⟩ := hq
    have hw : lo_Wd X ([oX7 xo xi n (a 0) xh xs sv xr xt xl xa xc, oX2 xa (runL (k - 1).toNat (PL P i.toNat) 0) (runL (k - 1).toNat (PL P i.toNat) 1) (runL (k - 1).toNat (PL P i.toNat) 2) (runL (k - 1).toNat (PL P i.toNat) 3) (runL (k - 1).toNat (PL P i.toNat) 4) (runL (k - 1).toNat (PL P i.toNat) 5) (runL (k - 1).toNat (PL P i.toNat) 6) (runL (k - 1).toNat (PL P i.toNat) 7) (runL (k - 1).toNat (PL P i.toNat) 8) (runL (k - 1).toNat (PL P i.toNat) 9), oX3 (a 0) (a 1) (a 2) (Pn P), arN X (a 1) 6 b, oX0 (a 2) (a 3) (a 4) (a 5) (Px P) (Pk P), arI X (a 3) 20 (Pa P), arI X (a 4) 20 (Pb P), arI X (a 5) 20 (Pd P)] ++ ((lsW b (PL P)))) A9 s9.heap H locs := hw
    refine W.eq (g2 := F0 m9 47 ls [.int (iI (dueL (runL (k - 1).toNat (PL P i.toNat))))]) rfl ?_
    refine lv_goto (tgt := 51) Ex Eb dX7_amountOfPayment_47 (by decide) ?_
    refine vx_ret ?_
    exact lo_iret E hRt hLk hK hAe hw dX7_amountOfPayment_51 rfl ⟨runL (k - 1).toNat (PL P i.toNat), dueL (runL (k - 1).toNat (PL P i.toNat)), (by omega), (by omega), (by first | exact Or.inl ⟨by omega, rfl⟩ | exact Or.inr ⟨by omega, rfl⟩), rfl, rfl⟩
set_option maxHeartbeats 4000000 in
set_option maxRecDepth 100000 in
theorem kX7_balanceAfter (l : Launch) (X : KX) (kS : Nat → Nat) (hst : l.stackTraces = false) (xo xi xh xs xr xt xl xa xc : Nat) (n sv : Int) (A0 : Nat → Int) (a b : Nat → Nat) (P : PT) (i k : Int) (hPI : PI P) (hi9 : i32 i) (hk9 : i32 k) : CT l X kS yX7_balanceAfter wsX7_balanceAfter ({ frames := 7, cells := 2, slots := 12, locals := 122 }) [.ref xo, .int (iI i), .int (iI k)] ([oX7 xo xi n (a 0) xh xs sv xr xt xl xa xc, oX2 xa (A0 0) (A0 1) (A0 2) (A0 3) (A0 4) (A0 5) (A0 6) (A0 7) (A0 8) (A0 9), oX3 (a 0) (a 1) (a 2) (Pn P), arN X (a 1) 6 b, oX0 (a 2) (a 3) (a 4) (a 5) (Px P) (Pk P), arI X (a 3) 20 (Pa P), arI X (a 4) 20 (Pb P), arI X (a 5) 20 (Pd P)] ++ ((lsW b (PL P)))) (fun v9 w9 => ∃ A9 : Nat → Int, (0 ≤ i ∧ i < Pn P) ∧ (0 ≤ k ∧ k ≤ 120) ∧ v9 = some (.int (iI (runL k.toNat (PL P i.toNat) 1))) ∧ w9 = [oX7 xo xi n (a 0) xh xs sv xr xt xl xa xc, oX2 xa (A9 0) (A9 1) (A9 2) (A9 3) (A9 4) (A9 5) (A9 6) (A9 7) (A9 8) (A9 9), oX3 (a 0) (a 1) (a 2) (Pn P), arN X (a 1) 6 b, oX0 (a 2) (a 3) (a 4) (a 5) (Px P) (Pk P), arI X (a 3) 20 (Pa P), arI X (a 4) 20 (Pb P), arI X (a 5) 20 (Pd P)] ++ ((lsW b (PL P)))) (fun E9 w9 => ∃ A9 : Nat → Int, ((E9 = "java/lang/IndexOutOfBoundsException" ∧ ¬ (0 ≤ i ∧ i < Pn P)) ∨ (E9 = "java/lang/IllegalArgumentException" ∧ (0 ≤ i ∧ i < Pn P) ∧ ¬ (0 ≤ k ∧ k ≤ 120))) ∧ w9 = [oX7 xo xi n (a 0) xh xs sv xr xt xl xa xc, oX2 xa (A9 0) (A9 1) (A9 2) (A9 3) (A9 4) (A9 5) (A9 6) (A9 7) (A9 8) (A9 9), oX3 (a 0) (a 1) (a 2) (Pn P), arN X (a 1) 6 b, oX0 (a 2) (a 3) (a 4) (a 5) (Px P) (Pk P), arI X (a 3) 20 (Pa P), arI X (a 4) 20 (Pb P), arI X (a 5) 20 (Pd P)] ++ ((lsW b (PL P)))) 2 12 := by
  refine lo_enterT (cc := cX7_balanceAfter) (maxL := 3) (ret := (some .int)) (lv := [(0, .ref xo), (1, .int (iI i)), (2, .int (iI k))]) (by decide) rfl rfl (Nat.le_of_ble_eq_true rfl) ?_
  intro p9 e9 s9 m9 bl9 me9 c9 A9 ls hAe E hRt hLk hK hl hw hV hT9
  have Ex := E.1
  have Eb := E.2.1
  have huRX7 : ∀ w ∈ u_ws RX7 TX7 11, w ∈ wsX7_balanceAfter := by decide +kernel
  have hf55 : (Cond.fieldLink RX7 55 "LoanSchedule" "aheadLoan" "LLoanSchedule$Loan;").before _ s9 = true := E.2.2.2.2 _ (List.mem_of_getElem? (i := 1) rfl)
  have huRX2 : ∀ w ∈ u_ws RX2 TX2 10, w ∈ wsX7_balanceAfter := by decide +kernel
  have hf137 : (Cond.fieldLink RX7 137 "LoanSchedule$Loan" "balance" "I").before _ s9 = true := E.2.2.2.2 _ (List.mem_of_getElem? (i := 2) rfl)
  obtain ⟨⟨hn0, hn1⟩, ⟨hx0, hx1⟩, ⟨hk0, hk1⟩, hL⟩ := id hPI
  refine lv_aload_n Ex Eb dX7_balanceAfter_0 rfl (lv_at hl 0 rfl) ?_
  refine lo_get E hK hw huRX7 9 hf55 rfl 0 rfl rfl (by decide) (v := .ref xa) rfl dX7_balanceAfter_1 ?_
  refine lv_aload_n Ex Eb dX7_balanceAfter_4 rfl (lv_at hl 0 rfl) ?_
  refine lv_iload_n Ex Eb dX7_balanceAfter_5 rfl (lv_at hl 1 rfl) ?_
  refine lo_callVT (q0 := 0) (rest := [.ref xa]) E hK hw hV (kX7_loanAt l X kS hst xo xi xh xs xr xt xl xa xc n sv a b P i (by omega) (by omega)) (cwV 1 E.2.2.2.2 gX7_balanceAfter_X7_loanAt rfl rfl rfl (by decide +kernel) ⟨Nat.le_of_ble_eq_true rfl, Nat.le_of_ble_eq_true rfl⟩) rfl rfl [0, 2, 3, 4, 5, 6, 7, 8, 9, 10, 11, 12, 13] rfl (by decide) hl.1 rfl rfl (Nat.le_of_ble_eq_true rfl) dX7_balanceAfter_6 ⟨Nat.le_of_ble_eq_true rfl, Nat.le_of_ble_eq_true rfl⟩ (fun E9 ce9 q9 w1 H locs hq hw hx1 hx2 hx3 => ?_) (fun v w1 H locs hq hw => ?_)
  · obtain ⟨x6_0, x6_1, rfl⟩ := hq
    have hw : lo_Wd X ([oX7 xo xi n (a 0) xh xs sv xr xt xl xa xc, oX2 xa (A0 0) (A0 1) (A0 2) (A0 3) (A0 4) (A0 5) (A0 6) (A0 7) (A0 8) (A0 9), oX3 (a 0) (a 1) (a 2) (Pn P), arN X (a 1) 6 b, oX0 (a 2) (a 3) (a 4) (a 5) (Px P) (Pk P), arI X (a 3) 20 (Pa P), arI X (a 4) 20 (Pb P), arI X (a 5) 20 (Pd P)] ++ ((lsW b (PL P)))) A9 s9.heap H locs := hw
    exact lo_out hT9 hLk hK hAe hw hx1 hx2 hx3 rfl (Nat.le_of_ble_eq_true rfl) (Nat.le_of_ble_eq_true rfl) ⟨A0, (Or.inl ⟨x6_0, x6_1⟩), rfl⟩
  obtain ⟨q6_0, rfl, rfl⟩ := hq
  have hw : lo_Wd X ([oX7 xo xi n (a 0) xh xs sv xr xt xl xa xc, oX2 xa (A0 0) (A0 1) (A0 2) (A0 3) (A0 4) (A0 5) (A0 6) (A0 7) (A0 8) (A0 9), oX3 (a 0) (a 1) (a 2) (Pn P), arN X (a 1) 6 b, oX0 (a 2) (a 3) (a 4) (a 5) (Px P) (Pk P), arI X (a 3) 20 (Pa P), arI X (a 4) 20 (Pb P), arI X (a 5) 20 (Pd P)] ++ ((lsW b (PL P)))) A9 s9.heap H locs := hw
  refine W.eq (g2 := F0 m9 9 ls [.ref (b i.toNat), .ref xa]) rfl ?_
  have hLi := hL i.toNat (by omega)
  obtain ⟨⟨hb0, hb1⟩, ⟨hr0, hr1⟩, ⟨hc0, hc1⟩, ⟨hm0, hm1⟩, ⟨hi0, hi1⟩, ⟨hs0, hs1⟩, hop, hcl⟩ := id hLi
  refine lo_callV (q0 := 1) (rest := []) E hK hw (kX2_copyFrom l X xa (b i.toNat) A0 (PL P i.toNat) ) (cwV 1 E.2.2.2.2 gX7_balanceAfter_X2_copyFrom rfl rfl rfl (by decide +kernel) ⟨Nat.le_of_ble_eq_true rfl, Nat.le_of_ble_eq_true rfl⟩) rfl rfl [1, 8 + i.toNat] (lo_ps_cons rfl (lo_ps_cons (lsW_atE (k := 8) rfl (by omega)) lo_ps_nil)) (by simp [va_nd]; try omega) hl.1 rfl rfl (Nat.le_of_ble_eq_true rfl) dX7_balanceAfter_9 ⟨Nat.le_of_ble_eq_true rfl, Nat.le_of_ble_eq_true rfl⟩ (fun v w1 H locs hq hw => ?_)
  obtain ⟨rfl, rfl⟩ := hq
  have hw := lo_cast (lsW_k (k := 8) (ps := [1]) (w1 := [oX2 xa (PL P i.toNat 0) (PL P i.toNat 1) (PL P i.toNat 2) (PL P i.toNat 3) (PL P i.toNat 4) (PL P i.toNat 5) (PL P i.toNat 6) (PL P i.toNat 7) (PL P i.toNat 8) (PL P i.toNat 9)]) rfl (by omega) (by decide) rfl rfl) hw
  have hw : lo_Wd X ([oX7 xo xi n (a 0) xh xs sv xr xt xl xa xc, oX2 xa (PL P i.toNat 0) (PL P i.toNat 1) (PL P i.toNat 2) (PL P i.toNat 3) (PL P i.toNat 4) (PL P i.toNat 5) (PL P i.toNat 6) (PL P i.toNat 7) (PL P i.toNat 8) (PL P i.toNat 9), oX3 (a 0) (a 1) (a 2) (Pn P), arN X (a 1) 6 b, oX0 (a 2) (a 3) (a 4) (a 5) (Px P) (Pk P), arI X (a 3) 20 (Pa P), arI X (a 4) 20 (Pb P), arI X (a 5) 20 (Pd P)] ++ ((lsW b (PL P)))) A9 s9.heap H locs := hw
  refine W.eq (g2 := F0 m9 12 ls []) rfl ?_
  refine lv_iload_n Ex Eb dX7_balanceAfter_12 rfl (lv_at hl 2 rfl) ?_
  refine lv_iconst (v := iI 0) Ex Eb dX7_balanceAfter_13 rfl ?_
  refine lv_bipush (v := iI 120) Ex Eb dX7_balanceAfter_14 rfl ?_
  refine lo_callST (rest := []) E hK hw hV (kX7_requireRange l X kS hst k 0 120 (by omega) (by omega) (by omega)) (cwS 3 E.2.2.2.2 gX7_balanceAfter_X7_requireRange rfl rfl rfl (by decide +kernel) ⟨Nat.le_of_ble_eq_true rfl, Nat.le_of_ble_eq_true rfl⟩) [] rfl (by decide) hl.1 rfl rfl (Nat.le_of_ble_eq_true rfl) dX7_balanceAfter_16 ⟨Nat.le_of_ble_eq_true rfl, Nat.le_of_ble_eq_true rfl⟩ (fun E9 ce9 q9 w1 H locs hq hw hx1 hx2 hx3 => ?_) (fun v w1 H locs hq hw => ?_)
  · obtain ⟨x16_0, x16_1, rfl⟩ := hq
    have hw : lo_Wd X ([oX7 xo xi n (a 0) xh xs sv xr xt xl xa xc, oX2 xa (PL P i.toNat 0) (PL P i.toNat 1) (PL P i.toNat 2) (PL P i.toNat 3) (PL P i.toNat 4) (PL P i.toNat 5) (PL P i.toNat 6) (PL P i.toNat 7) (PL P i.toNat 8) (PL P i.toNat 9), oX3 (a 0) (a 1) (a 2) (Pn P), arN X (a 1) 6 b, oX0 (a 2) (a 3) (a 4) (a 5) (Px P) (Pk P), arI X (a 3) 20 (Pa P), arI X (a 4) 20 (Pb P), arI X (a 5) 20 (Pd P)] ++ ((lsW b (PL P)))) A9 s9.heap H locs := hw
    exact lo_out hT9 hLk hK hAe hw hx1 hx2 hx3 rfl (Nat.le_of_ble_eq_true rfl) (Nat.le_of_ble_eq_true rfl) ⟨PL P i.toNat, (Or.inr ⟨x16_0, by omega, x16_1⟩), rfl⟩
  obtain ⟨q16_0, rfl, rfl⟩ := hq
  have hw : lo_Wd X ([oX7 xo xi n (a 0) xh xs sv xr xt xl xa xc, oX2 xa (PL P i.toNat 0) (PL P i.toNat 1) (PL P i.toNat 2) (PL P i.toNat 3) (PL P i.toNat 4) (PL P i.toNat 5) (PL P i.toNat 6) (PL P i.toNat 7) (PL P i.toNat 8) (PL P i.toNat 9), oX3 (a 0) (a 1) (a 2) (Pn P), arN X (a 1) 6 b, oX0 (a 2) (a 3) (a 4) (a 5) (Px P) (Pk P), arI X (a 3) 20 (Pa P), arI X (a 4) 20 (Pb P), arI X (a 5) 20 (Pd P)] ++ ((lsW b (PL P)))) A9 s9.heap H locs := hw
  refine W.eq (g2 := F0 m9 19 ls []) rfl ?_
  refine lv_aload_n Ex Eb dX7_balanceAfter_19 rfl (lv_at hl 0 rfl) ?_
  refine lo_get E hK hw huRX7 9 hf55 rfl 0 rfl rfl (by decide) (v := .ref xa) rfl dX7_balanceAfter_20 ?_
  refine lv_iload_n Ex Eb dX7_balanceAfter_23 rfl (lv_at hl 2 rfl) ?_
  refine lo_callV (q0 := 1) (rest := []) E hK hw (kX2_settleMonths l X xa (PL P i.toNat) k (hLi) (by omega)) (cwV 1 E.2.2.2.2 gX7_balanceAfter_X2_settleMonths rfl rfl rfl (by decide +kernel) ⟨Nat.le_of_ble_eq_true rfl, Nat.le_of_ble_eq_true rfl⟩) rfl rfl [1] rfl (by decide) hl.1 rfl rfl (Nat.le_of_ble_eq_true rfl) dX7_balanceAfter_24 ⟨Nat.le_of_ble_eq_true rfl, Nat.le_of_ble_eq_true rfl⟩ (fun v w1 H locs hq hw => ?_)
  obtain ⟨rfl, rfl⟩ := hq
  have hw : lo_Wd X ([oX7 xo xi n (a 0) xh xs sv xr xt xl xa xc, oX2 xa (runL k.toNat (PL P i.toNat) 0) (runL k.toNat (PL P i.toNat) 1) (runL k.toNat (PL P i.toNat) 2) (runL k.toNat (PL P i.toNat) 3) (runL k.toNat (PL P i.toNat) 4) (runL k.toNat (PL P i.toNat) 5) (runL k.toNat (PL P i.toNat) 6) (runL k.toNat (PL P i.toNat) 7) (runL k.toNat (PL P i.toNat) 8) (runL k.toNat (PL P i.toNat) 9), oX3 (a 0) (a 1) (a 2) (Pn P), arN X (a 1) 6 b, oX0 (a 2) (a 3) (a 4) (a 5) (Px P) (Pk P), arI X (a 3) 20 (Pa P), arI X (a 4) 20 (Pb P), arI X (a 5) 20 (Pd P)] ++ ((lsW b (PL P)))) A9 s9.heap H locs := hw
  refine W.eq (g2 := F0 m9 27 ls [.int (iI (lastL k.toNat (PL P i.toNat) 0))]) rfl ?_
  refine lv_pop Ex Eb dX7_balanceAfter_27 rfl ?_
  refine lv_aload_n Ex Eb dX7_balanceAfter_28 rfl (lv_at hl 0 rfl) ?_
  refine lo_get E hK hw huRX7 9 hf55 rfl 0 rfl rfl (by decide) (v := .ref xa) rfl dX7_balanceAfter_29 ?_
  refine lo_get E hK hw huRX2 1 hf137 rfl 1 rfl rfl (by decide) (v := .int (iI (runL k.toNat (PL P i.toNat) 1))) rfl dX7_balanceAfter_32 ?_
  refine vx_ret ?_
  exact lo_iret E hRt hLk hK hAe hw dX7_balanceAfter_35 rfl ⟨runL k.toNat (PL P i.toNat), (by omega), (by omega), rfl, rfl⟩
