set_option maxHeartbeats 4000000 in
set_option maxRecDepth 100000 in
theorem kX7_requireRange (l : Launch) (X : KX) (kS : Nat → Nat) (hst : l.stackTraces = false) (v lo hi : Int) (hv : i32 v) (hlo : i32 lo) (hhi : i32 hi) : CT l X kS yX7_requireRange wsX7_requireRange ({ frames := 6, cells := 1, slots := 6, locals := 100 }) [.int (iI v), .int (iI lo), .int (iI hi)] ([]) (fun v9 w9 => (lo ≤ v ∧ v ≤ hi) ∧ v9 = none ∧ w9 = []) (fun E9 w9 => (E9 = "java/lang/IllegalArgumentException") ∧ (¬ (lo ≤ v ∧ v ≤ hi)) ∧ w9 = []) 1 6 := by
  refine lo_enterT (cc := cX7_requireRange) (maxL := 3) (ret := none) (lv := [(0, .int (iI v)), (1, .int (iI lo)), (2, .int (iI hi))]) (by decide) rfl rfl (Nat.le_of_ble_eq_true rfl) ?_
  intro p9 e9 s9 m9 bl9 me9 c9 A9 ls hAe E hRt hLk hK hl hw hV hT9
  have Ex := E.1
  have Eb := E.2.1
  have hk306 : (Cond.classLink RX7 306 "java/lang/IllegalArgumentException").before _ s9 = true := E.2.2.2.2 _ (List.mem_of_getElem? (i := 1) rfl)
  have hin306 : (Cond.initialized "java/lang/IllegalArgumentException").before _ s9 = true := E.2.2.2.2 _ (List.mem_of_getElem? (i := 2) rfl)
  refine lv_iload_n Ex Eb dX7_requireRange_0 rfl (lv_at hl 0 rfl) ?_
  refine lv_iload_n Ex Eb dX7_requireRange_1 rfl (lv_at hl 1 rfl) ?_
  refine lo_icmp_lt (tgt := 10) E dX7_requireRange_2 (by decide) (by omega) (by omega) (fun c1 => ?_) (fun c1 => ?_)
  · skip
    refine lo_throw (cls := "java/lang/IllegalArgumentException") (names := ["java/lang/RuntimeException", "java/lang/Exception"]) (ik := 306) (ic := 308) E hst hV hK hAe hw hLk hT9 (by decide +kernel) (by decide +kernel) hk306 hin306 (by decide +kernel) (by decide +kernel) (by decide +kernel) hl.1 dX7_requireRange_10 dX7_requireRange_13 dX7_requireRange_14 dX7_requireRange_17 (Nat.le_of_ble_eq_true rfl) (Nat.le_of_ble_eq_true rfl) (Nat.le_of_ble_eq_true rfl) (Nat.le_of_ble_eq_true rfl) rfl (Nat.le_of_ble_eq_true rfl) (Nat.le_of_ble_eq_true rfl) ⟨(rfl), (by omega), rfl⟩
  · skip
    refine lv_iload_n Ex Eb dX7_requireRange_5 rfl (lv_at hl 0 rfl) ?_
    refine lv_iload_n Ex Eb dX7_requireRange_6 rfl (lv_at hl 2 rfl) ?_
    refine lo_icmp_le (tgt := 18) E dX7_requireRange_7 (by decide) (by omega) (by omega) (fun c2 => ?_) (fun c2 => ?_)
    · skip
      refine vx_ret ?_
      refine W.widen (k := 1) (n := 6) (Nat.le_of_ble_eq_true rfl) (Nat.le_of_ble_eq_true rfl) ?_
      exact lo_vret E hRt hLk hK hAe hw dX7_requireRange_18 rfl ⟨(by omega), rfl, rfl⟩
    · skip
      refine lo_throw (cls := "java/lang/IllegalArgumentException") (names := ["java/lang/RuntimeException", "java/lang/Exception"]) (ik := 306) (ic := 308) E hst hV hK hAe hw hLk hT9 (by decide +kernel) (by decide +kernel) hk306 hin306 (by decide +kernel) (by decide +kernel) (by decide +kernel) hl.1 dX7_requireRange_10 dX7_requireRange_13 dX7_requireRange_14 dX7_requireRange_17 (Nat.le_of_ble_eq_true rfl) (Nat.le_of_ble_eq_true rfl) (Nat.le_of_ble_eq_true rfl) (Nat.le_of_ble_eq_true rfl) rfl (Nat.le_of_ble_eq_true rfl) (Nat.le_of_ble_eq_true rfl) ⟨(rfl), (by omega), rfl⟩
set_option maxHeartbeats 4000000 in
set_option maxRecDepth 100000 in
theorem kX7_requireState (l : Launch) (X : KX) (kS : Nat → Nat) (hst : l.stackTraces = false) (v : Int) (hv : v = 0 ∨ v = 1) : CT l X kS yX7_requireState wsX7_requireState ({ frames := 6, cells := 1, slots := 6, locals := 100 }) [.int (iI v)] ([]) (fun v9 w9 => (v = 1) ∧ v9 = none ∧ w9 = []) (fun E9 w9 => (E9 = "java/lang/IllegalStateException") ∧ (v = 0) ∧ w9 = []) 1 6 := by
  refine lo_enterT (cc := cX7_requireState) (maxL := 1) (ret := none) (lv := [(0, .int (iI v))]) (by decide) rfl rfl (Nat.le_of_ble_eq_true rfl) ?_
  intro p9 e9 s9 m9 bl9 me9 c9 A9 ls hAe E hRt hLk hK hl hw hV hT9
  have Ex := E.1
  have Eb := E.2.1
  have hk309 : (Cond.classLink RX7 309 "java/lang/IllegalStateException").before _ s9 = true := E.2.2.2.2 _ (List.mem_of_getElem? (i := 1) rfl)
  have hin309 : (Cond.initialized "java/lang/IllegalStateException").before _ s9 = true := E.2.2.2.2 _ (List.mem_of_getElem? (i := 2) rfl)
  refine lv_iload_n Ex Eb dX7_requireState_0 rfl (lv_at hl 0 rfl) ?_
  refine lo_if_ne (tgt := 12) E dX7_requireState_1 (by decide) (by omega) (fun c1 => ?_) (fun c1 => ?_)
  · skip
    refine vx_ret ?_
    refine W.widen (k := 1) (n := 6) (Nat.le_of_ble_eq_true rfl) (Nat.le_of_ble_eq_true rfl) ?_
    exact lo_vret E hRt hLk hK hAe hw dX7_requireState_12 rfl ⟨(by omega), rfl, rfl⟩
  · skip
    refine lo_throw (cls := "java/lang/IllegalStateException") (names := ["java/lang/RuntimeException", "java/lang/Exception"]) (ik := 309) (ic := 311) E hst hV hK hAe hw hLk hT9 (by decide +kernel) (by decide +kernel) hk309 hin309 (by decide +kernel) (by decide +kernel) (by decide +kernel) hl.1 dX7_requireState_4 dX7_requireState_7 dX7_requireState_8 dX7_requireState_11 (Nat.le_of_ble_eq_true rfl) (Nat.le_of_ble_eq_true rfl) (Nat.le_of_ble_eq_true rfl) (Nat.le_of_ble_eq_true rfl) rfl (Nat.le_of_ble_eq_true rfl) (Nat.le_of_ble_eq_true rfl) ⟨(rfl), (by omega), rfl⟩
set_option maxHeartbeats 4000000 in
set_option maxRecDepth 100000 in
theorem kX7_loanAt (l : Launch) (X : KX) (kS : Nat → Nat) (hst : l.stackTraces = false) (xo xi xh xs xr xt xl xa xc : Nat) (n sv : Int) (a b : Nat → Nat) (P : PT) (i : Int) (hPI : PI P) (hi9 : i32 i) : CT l X kS yX7_loanAt wsX7_loanAt ({ frames := 6, cells := 1, slots := 6, locals := 100 }) [.ref xo, .int (iI i)] ([oX7 xo xi n (a 0) xh xs sv xr xt xl xa xc, oX3 (a 0) (a 1) (a 2) (Pn P), arN X (a 1) 6 b, oX0 (a 2) (a 3) (a 4) (a 5) (Px P) (Pk P), arI X (a 3) 20 (Pa P), arI X (a 4) 20 (Pb P), arI X (a 5) 20 (Pd P)] ++ ((lsW b (PL P)))) (fun v9 w9 => (0 ≤ i ∧ i < Pn P) ∧ v9 = some (.ref (b i.toNat)) ∧ w9 = [oX7 xo xi n (a 0) xh xs sv xr xt xl xa xc, oX3 (a 0) (a 1) (a 2) (Pn P), arN X (a 1) 6 b, oX0 (a 2) (a 3) (a 4) (a 5) (Px P) (Pk P), arI X (a 3) 20 (Pa P), arI X (a 4) 20 (Pb P), arI X (a 5) 20 (Pd P)] ++ ((lsW b (PL P)))) (fun E9 w9 => (E9 = "java/lang/IndexOutOfBoundsException") ∧ (¬ (0 ≤ i ∧ i < Pn P)) ∧ w9 = [oX7 xo xi n (a 0) xh xs sv xr xt xl xa xc, oX3 (a 0) (a 1) (a 2) (Pn P), arN X (a 1) 6 b, oX0 (a 2) (a 3) (a 4) (a 5) (Px P) (Pk P), arI X (a 3) 20 (Pa P), arI X (a 4) 20 (Pb P), arI X (a 5) 20 (Pd P)] ++ ((lsW b (PL P)))) 1 6 := by
  refine lo_enterT (cc := cX7_loanAt) (maxL := 2) (ret := (some (.object "LoanSchedule$Loan"))) (lv := [(0, .ref xo), (1, .int (iI i))]) (by decide) rfl rfl (Nat.le_of_ble_eq_true rfl) ?_
  intro p9 e9 s9 m9 bl9 me9 c9 A9 ls hAe E hRt hLk hK hl hw hV hT9
  have Ex := E.1
  have Eb := E.2.1
  have hk303 : (Cond.classLink RX7 303 "java/lang/IndexOutOfBoundsException").before _ s9 = true := E.2.2.2.2 _ (List.mem_of_getElem? (i := 1) rfl)
  have hin303 : (Cond.initialized "java/lang/IndexOutOfBoundsException").before _ s9 = true := E.2.2.2.2 _ (List.mem_of_getElem? (i := 2) rfl)
  have huRX7 : ∀ w ∈ u_ws RX7 TX7 11, w ∈ wsX7_loanAt := by decide +kernel
  have hf20 : (Cond.fieldLink RX7 20 "LoanSchedule" "plan" "LLoanSchedule$Plan;").before _ s9 = true := E.2.2.2.2 _ (List.mem_of_getElem? (i := 3) rfl)
  have huRX3 : ∀ w ∈ u_ws RX3 TX3 3, w ∈ wsX7_loanAt := by decide +kernel
  have hf100 : (Cond.fieldLink RX7 100 "LoanSchedule$Plan" "count" "I").before _ s9 = true := E.2.2.2.2 _ (List.mem_of_getElem? (i := 4) rfl)
  have hf260 : (Cond.fieldLink RX7 260 "LoanSchedule$Plan" "loans" "[LLoanSchedule$Loan;").before _ s9 = true := E.2.2.2.2 _ (List.mem_of_getElem? (i := 5) rfl)
  obtain ⟨⟨hn0, hn1⟩, ⟨hx0, hx1⟩, ⟨hk0, hk1⟩, hL⟩ := id hPI
  refine lv_iload_n Ex Eb dX7_loanAt_0 rfl (lv_at hl 1 rfl) ?_
  refine lo_if_lt (tgt := 21) E dX7_loanAt_1 (by decide) (by omega) (fun c1 => ?_) (fun c1 => ?_)
  · skip
    refine lo_throw (cls := "java/lang/IndexOutOfBoundsException") (names := ["java/lang/RuntimeException", "java/lang/Exception"]) (ik := 303) (ic := 305) E hst hV hK hAe hw hLk hT9 (by decide +kernel) (by decide +kernel) hk303 hin303 (by decide +kernel) (by decide +kernel) (by decide +kernel) hl.1 dX7_loanAt_21 dX7_loanAt_24 dX7_loanAt_25 dX7_loanAt_28 (Nat.le_of_ble_eq_true rfl) (Nat.le_of_ble_eq_true rfl) (Nat.le_of_ble_eq_true rfl) (Nat.le_of_ble_eq_true rfl) rfl (Nat.le_of_ble_eq_true rfl) (Nat.le_of_ble_eq_true rfl) ⟨(rfl), (by omega), rfl⟩
  · skip
    refine lv_iload_n Ex Eb dX7_loanAt_4 rfl (lv_at hl 1 rfl) ?_
    refine lv_aload_n Ex Eb dX7_loanAt_5 rfl (lv_at hl 0 rfl) ?_
    refine lo_get E hK hw huRX7 2 hf20 rfl 0 rfl rfl (by decide) (v := .ref (a 0)) rfl dX7_loanAt_6 ?_
    refine lo_get E hK hw huRX3 2 hf100 rfl 1 rfl rfl (by decide) (v := .int (iI (Pn P))) rfl dX7_loanAt_9 ?_
    refine lo_icmp_ge (tgt := 21) E dX7_loanAt_12 (by decide) (by omega) (by omega) (fun c2 => ?_) (fun c2 => ?_)
    · skip
      refine lo_throw (cls := "java/lang/IndexOutOfBoundsException") (names := ["java/lang/RuntimeException", "java/lang/Exception"]) (ik := 303) (ic := 305) E hst hV hK hAe hw hLk hT9 (by decide +kernel) (by decide +kernel) hk303 hin303 (by decide +kernel) (by decide +kernel) (by decide +kernel) hl.1 dX7_loanAt_21 dX7_loanAt_24 dX7_loanAt_25 dX7_loanAt_28 (Nat.le_of_ble_eq_true rfl) (Nat.le_of_ble_eq_true rfl) (Nat.le_of_ble_eq_true rfl) (Nat.le_of_ble_eq_true rfl) rfl (Nat.le_of_ble_eq_true rfl) (Nat.le_of_ble_eq_true rfl) ⟨(rfl), (by omega), rfl⟩
    · skip
      refine lv_iload_n Ex Eb dX7_loanAt_15 rfl (lv_at hl 1 rfl) ?_
      refine lv_bipush (v := iI 6) Ex Eb dX7_loanAt_16 rfl ?_
      refine lo_icmp_lt (tgt := 29) E dX7_loanAt_18 (by decide) (by omega) (by omega) (fun c3 => ?_) (fun c3 => ?_)
      · skip
        refine lv_aload_n Ex Eb dX7_loanAt_29 rfl (lv_at hl 0 rfl) ?_
        refine lo_get E hK hw huRX7 2 hf20 rfl 0 rfl rfl (by decide) (v := .ref (a 0)) rfl dX7_loanAt_30 ?_
        refine lo_get E hK hw huRX3 0 hf260 rfl 1 rfl rfl (by decide) (v := .ref (a 1)) rfl dX7_loanAt_33 ?_
        refine lv_iload_n Ex Eb dX7_loanAt_36 rfl (lv_at hl 1 rfl) ?_
        refine lo_aldN E hK hw 2 rfl (by omega) dX7_loanAt_37 ?_
        refine vx_ret ?_
        refine W.widen (k := 1) (n := 6) (Nat.le_of_ble_eq_true rfl) (Nat.le_of_ble_eq_true rfl) ?_
        exact lo_aret E hRt (Or.inl ⟨_, rfl⟩) hLk hK hAe hw dX7_loanAt_38 rfl ⟨(by omega), rfl, rfl⟩
      · skip
        refine lo_throw (cls := "java/lang/IndexOutOfBoundsException") (names := ["java/lang/RuntimeException", "java/lang/Exception"]) (ik := 303) (ic := 305) E hst hV hK hAe hw hLk hT9 (by decide +kernel) (by decide +kernel) hk303 hin303 (by decide +kernel) (by decide +kernel) (by decide +kernel) hl.1 dX7_loanAt_21 dX7_loanAt_24 dX7_loanAt_25 dX7_loanAt_28 (Nat.le_of_ble_eq_true rfl) (Nat.le_of_ble_eq_true rfl) (Nat.le_of_ble_eq_true rfl) (Nat.le_of_ble_eq_true rfl) rfl (Nat.le_of_ble_eq_true rfl) (Nat.le_of_ble_eq_true rfl) ⟨(rfl), (by omega), rfl⟩
set_option maxHeartbeats 4000000 in
set_option maxRecDepth 100000 in
theorem kX7_principal (l : Launch) (X : KX) (kS : Nat → Nat) (hst : l.stackTraces = false) (xo xi xh xs xr xt xl xa xc : Nat) (n sv : Int) (a b : Nat → Nat) (P : PT) (i : Int) (hPI : PI P) (hi9 : i32 i) : CT l X kS yX7_principal wsX7_principal ({ frames := 7, cells := 1, slots := 6, locals := 121 }) [.ref xo, .int (iI i)] ([oX7 xo xi n (a 0) xh xs sv xr xt xl xa xc, oX3 (a 0) (a 1) (a 2) (Pn P), arN X (a 1) 6 b, oX0 (a 2) (a 3) (a 4) (a 5) (Px P) (Pk P), arI X (a 3) 20 (Pa P), arI X (a 4) 20 (Pb P), arI X (a 5) 20 (Pd P)] ++ ((lsW b (PL P)))) (fun v9 w9 => (0 ≤ i ∧ i < Pn P) ∧ v9 = some (.int (iI (PL P i.toNat 0))) ∧ w9 = [oX7 xo xi n (a 0) xh xs sv xr xt xl xa xc, oX3 (a 0) (a 1) (a 2) (Pn P), arN X (a 1) 6 b, oX0 (a 2) (a 3) (a 4) (a 5) (Px P) (Pk P), arI X (a 3) 20 (Pa P), arI X (a 4) 20 (Pb P), arI X (a 5) 20 (Pd P)] ++ ((lsW b (PL P)))) (fun E9 w9 => (E9 = "java/lang/IndexOutOfBoundsException") ∧ (¬ (0 ≤ i ∧ i < Pn P)) ∧ w9 = [oX7 xo xi n (a 0) xh xs sv xr xt xl xa xc, oX3 (a 0) (a 1) (a 2) (Pn P), arN X (a 1) 6 b, oX0 (a 2) (a 3) (a 4) (a 5) (Px P) (Pk P), arI X (a 3) 20 (Pa P), arI X (a 4) 20 (Pb P), arI X (a 5) 20 (Pd P)] ++ ((lsW b (PL P)))) 1 6 := by
  refine lo_enterT (cc := cX7_principal) (maxL := 2) (ret := (some .int)) (lv := [(0, .ref xo), (1, .int (iI i))]) (by decide) rfl rfl (Nat.le_of_ble_eq_true rfl) ?_
  intro p9 e9 s9 m9 bl9 me9 c9 A9 ls hAe E hRt hLk hK hl hw hV hT9
  have Ex := E.1
  have Eb := E.2.1
  have huRX2 : ∀ w ∈ u_ws RX2 TX2 10, w ∈ wsX7_principal := by decide +kernel
  have hf182 : (Cond.fieldLink RX7 182 "LoanSchedule$Loan" "principal" "I").before _ s9 = true := E.2.2.2.2 _ (List.mem_of_getElem? (i := 1) rfl)
  obtain ⟨⟨hn0, hn1⟩, ⟨hx0, hx1⟩, ⟨hk0, hk1⟩, hL⟩ := id hPI
  refine lv_aload_n Ex Eb dX7_principal_0 rfl (lv_at hl 0 rfl) ?_
  refine lv_iload_n Ex Eb dX7_principal_1 rfl (lv_at hl 1 rfl) ?_
  have hw : lo_Wd X (([]) ++ ([oX7 xo xi n (a 0) xh xs sv xr xt xl xa xc, oX3 (a 0) (a 1) (a 2) (Pn P), arN X (a 1) 6 b, oX0 (a 2) (a 3) (a 4) (a 5) (Px P) (Pk P), arI X (a 3) 20 (Pa P), arI X (a 4) 20 (Pb P), arI X (a 5) 20 (Pd P)] ++ ((lsW b (PL P))))) A9 s9.heap _ _ := hw
  refine lo_callVT (q0 := 0) (rest := []) E hK hw hV (kX7_loanAt l X kS hst xo xi xh xs xr xt xl xa xc n sv a b P i (by omega) (by omega)) (cwV 1 E.2.2.2.2 gX7_principal_X7_loanAt rfl rfl rfl (by decide +kernel) ⟨Nat.le_of_ble_eq_true rfl, Nat.le_of_ble_eq_true rfl⟩) rfl rfl (List.range' 0 13) (lo_ps_tail (pre := []) rfl rfl) (by decide +kernel) hl.1 rfl rfl (Nat.le_of_ble_eq_true rfl) dX7_principal_2 ⟨Nat.le_of_ble_eq_true rfl, Nat.le_of_ble_eq_true rfl⟩ (fun E9 ce9 q9 w1 H locs hq hw hx1 hx2 hx3 => ?_) (fun v w1 H locs hq hw => ?_)
  · obtain ⟨x2_0, x2_1, rfl⟩ := hq
    have hw : lo_Wd X ([oX7 xo xi n (a 0) xh xs sv xr xt xl xa xc, oX3 (a 0) (a 1) (a 2) (Pn P), arN X (a 1) 6 b, oX0 (a 2) (a 3) (a 4) (a 5) (Px P) (Pk P), arI X (a 3) 20 (Pa P), arI X (a 4) 20 (Pb P), arI X (a 5) 20 (Pd P)] ++ ((lsW b (PL P)))) A9 s9.heap H locs := hw
    exact lo_out hT9 hLk hK hAe hw hx1 hx2 hx3 rfl (Nat.le_of_ble_eq_true rfl) (Nat.le_of_ble_eq_true rfl) ⟨(x2_0), (x2_1), rfl⟩
  obtain ⟨q2_0, rfl, rfl⟩ := hq
  have hw := lo_cast (lo_sets_tail (n := 13) (k := 0) (pre := []) (w0 := [oX7 xo xi n (a 0) xh xs sv xr xt xl xa xc, oX3 (a 0) (a 1) (a 2) (Pn P), arN X (a 1) 6 b, oX0 (a 2) (a 3) (a 4) (a 5) (Px P) (Pk P), arI X (a 3) 20 (Pa P), arI X (a 4) 20 (Pb P), arI X (a 5) 20 (Pd P)] ++ ((lsW b (PL P)))) (w1 := [oX7 xo xi n (a 0) xh xs sv xr xt xl xa xc, oX3 (a 0) (a 1) (a 2) (Pn P), arN X (a 1) 6 b, oX0 (a 2) (a 3) (a 4) (a 5) (Px P) (Pk P), arI X (a 3) 20 (Pa P), arI X (a 4) 20 (Pb P), arI X (a 5) 20 (Pd P)] ++ ((lsW b (PL P)))) rfl rfl rfl) hw
  have hw : lo_Wd X ([oX7 xo xi n (a 0) xh xs sv xr xt xl xa xc, oX3 (a 0) (a 1) (a 2) (Pn P), arN X (a 1) 6 b, oX0 (a 2) (a 3) (a 4) (a 5) (Px P) (Pk P), arI X (a 3) 20 (Pa P), arI X (a 4) 20 (Pb P), arI X (a 5) 20 (Pd P)] ++ ((lsW b (PL P)))) A9 s9.heap H locs := hw
  refine W.eq (g2 := F0 m9 5 ls [.ref (b i.toNat)]) rfl ?_
  refine lo_get E hK hw huRX2 0 hf182 rfl (7 + i.toNat) (lsW_atE (k := 7) rfl (by omega)) rfl (by decide) (v := .int (iI (PL P i.toNat 0))) rfl dX7_principal_5 ?_
  refine vx_ret ?_
  exact lo_iret E hRt hLk hK hAe hw dX7_principal_8 rfl ⟨(by omega), rfl, rfl⟩
set_option maxHeartbeats 4000000 in
set_option maxRecDepth 100000 in
theorem kX7_balance (l : Launch) (X : KX) (kS : Nat → Nat) (hst : l.stackTraces = false) (xo xi xh xs xr xt xl xa xc : Nat) (n sv : Int) (a b : Nat → Nat) (P : PT) (i : Int) (hPI : PI P) (hi9 : i32 i) : CT l X kS yX7_balance wsX7_balance ({ frames := 7, cells := 1, slots := 6, locals := 121 }) [.ref xo, .int (iI i)] ([oX7 xo xi n (a 0) xh xs sv xr xt xl xa xc, oX3 (a 0) (a 1) (a 2) (Pn P), arN X (a 1) 6 b, oX0 (a 2) (a 3) (a 4) (a 5) (Px P) (Pk P), arI X (a 3) 20 (Pa P), arI X (a 4) 20 (Pb P), arI X (a 5) 20 (Pd P)] ++ ((lsW b (PL P)))) (fun v9 w9 => (0 ≤ i ∧ i < Pn P) ∧ v9 = some (.int (iI (PL P i.toNat 1))) ∧ w9 = [oX7 xo xi n (a 0) xh xs sv xr xt xl xa xc, oX3 (a 0) (a 1) (a 2) (Pn P), arN X (a 1) 6 b, oX0 (a 2) (a 3) (a 4) (a 5) (Px P) (Pk P), arI X (a 3) 20 (Pa P), arI X (a 4) 20 (Pb P), arI X (a 5) 20 (Pd P)] ++ ((lsW b (PL P)))) (fun E9 w9 => (E9 = "java/lang/IndexOutOfBoundsException") ∧ (¬ (0 ≤ i ∧ i < Pn P)) ∧ w9 = [oX7 xo xi n (a 0) xh xs sv xr xt xl xa xc, oX3 (a 0) (a 1) (a 2) (Pn P), arN X (a 1) 6 b, oX0 (a 2) (a 3) (a 4) (a 5) (Px P) (Pk P), arI X (a 3) 20 (Pa P), arI X (a 4) 20 (Pb P), arI X (a 5) 20 (Pd P)] ++ ((lsW b (PL P)))) 1 6 := by
  refine lo_enterT (cc := cX7_balance) (maxL := 2) (ret := (some .int)) (lv := [(0, .ref xo), (1, .int (iI i))]) (by decide) rfl rfl (Nat.le_of_ble_eq_true rfl) ?_
  intro p9 e9 s9 m9 bl9 me9 c9 A9 ls hAe E hRt hLk hK hl hw hV hT9
  have Ex := E.1
  have Eb := E.2.1
  have huRX2 : ∀ w ∈ u_ws RX2 TX2 10, w ∈ wsX7_balance := by decide +kernel
  have hf137 : (Cond.fieldLink RX7 137 "LoanSchedule$Loan" "balance" "I").before _ s9 = true := E.2.2.2.2 _ (List.mem_of_getElem? (i := 1) rfl)
  obtain ⟨⟨hn0, hn1⟩, ⟨hx0, hx1⟩, ⟨hk0, hk1⟩, hL⟩ := id hPI
  refine lv_aload_n Ex Eb dX7_balance_0 rfl (lv_at hl 0 rfl) ?_
  refine lv_iload_n Ex Eb dX7_balance_1 rfl (lv_at hl 1 rfl) ?_
  have hw : lo_Wd X (([]) ++ ([oX7 xo xi n (a 0) xh xs sv xr xt xl xa xc, oX3 (a 0) (a 1) (a 2) (Pn P), arN X (a 1) 6 b, oX0 (a 2) (a 3) (a 4) (a 5) (Px P) (Pk P), arI X (a 3) 20 (Pa P), arI X (a 4) 20 (Pb P), arI X (a 5) 20 (Pd P)] ++ ((lsW b (PL P))))) A9 s9.heap _ _ := hw
  refine lo_callVT (q0 := 0) (rest := []) E hK hw hV (kX7_loanAt l X kS hst xo xi xh xs xr xt xl xa xc n sv a b P i (by omega) (by omega)) (cwV 1 E.2.2.2.2 gX7_balance_X7_loanAt rfl rfl rfl (by decide +kernel) ⟨Nat.le_of_ble_eq_true rfl, Nat.le_of_ble_eq_true rfl⟩) rfl rfl (List.range' 0 13) (lo_ps_tail (pre := []) rfl rfl) (by decide +kernel) hl.1 rfl rfl (Nat.le_of_ble_eq_true rfl) dX7_balance_2 ⟨Nat.le_of_ble_eq_true rfl, Nat.le_of_ble_eq_true rfl⟩ (fun E9 ce9 q9 w1 H locs hq hw hx1 hx2 hx3 => ?_) (fun v w1 H locs hq hw => ?_)
  · obtain ⟨x2_0, x2_1, rfl⟩ := hq
    have hw : lo_Wd X ([oX7 xo xi n (a 0) xh xs sv xr xt xl xa xc, oX3 (a 0) (a 1) (a 2) (Pn P), arN X (a 1) 6 b, oX0 (a 2) (a 3) (a 4) (a 5) (Px P) (Pk P), arI X (a 3) 20 (Pa P), arI X (a 4) 20 (Pb P), arI X (a 5) 20 (Pd P)] ++ ((lsW b (PL P)))) A9 s9.heap H locs := hw
    exact lo_out hT9 hLk hK hAe hw hx1 hx2 hx3 rfl (Nat.le_of_ble_eq_true rfl) (Nat.le_of_ble_eq_true rfl) ⟨(x2_0), (x2_1), rfl⟩
  obtain ⟨q2_0, rfl, rfl⟩ := hq
  have hw := lo_cast (lo_sets_tail (n := 13) (k := 0) (pre := []) (w0 := [oX7 xo xi n (a 0) xh xs sv xr xt xl xa xc, oX3 (a 0) (a 1) (a 2) (Pn P), arN X (a 1) 6 b, oX0 (a 2) (a 3) (a 4) (a 5) (Px P) (Pk P), arI X (a 3) 20 (Pa P), arI X (a 4) 20 (Pb P), arI X (a 5) 20 (Pd P)] ++ ((lsW b (PL P)))) (w1 := [oX7 xo xi n (a 0) xh xs sv xr xt xl xa xc, oX3 (a 0) (a 1) (a 2) (Pn P), arN X (a 1) 6 b, oX0 (a 2) (a 3) (a 4) (a 5) (Px P) (Pk P), arI X (a 3) 20 (Pa P), arI X (a 4) 20 (Pb P), arI X (a 5) 20 (Pd P)] ++ ((lsW b (PL P)))) rfl rfl rfl) hw
  have hw : lo_Wd X ([oX7 xo xi n (a 0) xh xs sv xr xt xl xa xc, oX3 (a 0) (a 1) (a 2) (Pn P), arN X (a 1) 6 b, oX0 (a 2) (a 3) (a 4) (a 5) (Px P) (Pk P), arI X (a 3) 20 (Pa P), arI X (a 4) 20 (Pb P), arI X (a 5) 20 (Pd P)] ++ ((lsW b (PL P)))) A9 s9.heap H locs := hw
  refine W.eq (g2 := F0 m9 5 ls [.ref (b i.toNat)]) rfl ?_
  refine lo_get E hK hw huRX2 1 hf137 rfl (7 + i.toNat) (lsW_atE (k := 7) rfl (by omega)) rfl (by decide) (v := .int (iI (PL P i.toNat 1))) rfl dX7_balance_5 ?_
  refine vx_ret ?_
  exact lo_iret E hRt hLk hK hAe hw dX7_balance_8 rfl ⟨(by omega), rfl, rfl⟩
set_option maxHeartbeats 4000000 in
set_option maxRecDepth 100000 in
theorem kX7_rate (l : Launch) (X : KX) (kS : Nat → Nat) (hst : l.stackTraces = false) (xo xi xh xs xr xt xl xa xc : Nat) (n sv : Int) (a b : Nat → Nat) (P : PT) (i : Int) (hPI : PI P) (hi9 : i32 i) : CT l X kS yX7_rate wsX7_rate ({ frames := 7, cells := 1, slots := 6, locals := 121 }) [.ref xo, .int (iI i)] ([oX7 xo xi n (a 0) xh xs sv xr xt xl xa xc, oX3 (a 0) (a 1) (a 2) (Pn P), arN X (a 1) 6 b, oX0 (a 2) (a 3) (a 4) (a 5) (Px P) (Pk P), arI X (a 3) 20 (Pa P), arI X (a 4) 20 (Pb P), arI X (a 5) 20 (Pd P)] ++ ((lsW b (PL P)))) (fun v9 w9 => (0 ≤ i ∧ i < Pn P) ∧ v9 = some (.int (iI (PL P i.toNat 2))) ∧ w9 = [oX7 xo xi n (a 0) xh xs sv xr xt xl xa xc, oX3 (a 0) (a 1) (a 2) (Pn P), arN X (a 1) 6 b, oX0 (a 2) (a 3) (a 4) (a 5) (Px P) (Pk P), arI X (a 3) 20 (Pa P), arI X (a 4) 20 (Pb P), arI X (a 5) 20 (Pd P)] ++ ((lsW b (PL P)))) (fun E9 w9 => (E9 = "java/lang/IndexOutOfBoundsException") ∧ (¬ (0 ≤ i ∧ i < Pn P)) ∧ w9 = [oX7 xo xi n (a 0) xh xs sv xr xt xl xa xc, oX3 (a 0) (a 1) (a 2) (Pn P), arN X (a 1) 6 b, oX0 (a 2) (a 3) (a 4) (a 5) (Px P) (Pk P), arI X (a 3) 20 (Pa P), arI X (a 4) 20 (Pb P), arI X (a 5) 20 (Pd P)] ++ ((lsW b (PL P)))) 1 6 := by
  refine lo_enterT (cc := cX7_rate) (maxL := 2) (ret := (some .int)) (lv := [(0, .ref xo), (1, .int (iI i))]) (by decide) rfl rfl (Nat.le_of_ble_eq_true rfl) ?_
  intro p9 e9 s9 m9 bl9 me9 c9 A9 ls hAe E hRt hLk hK hl hw hV hT9
  have Ex := E.1
  have Eb := E.2.1
  have huRX2 : ∀ w ∈ u_ws RX2 TX2 10, w ∈ wsX7_rate := by decide +kernel
  have hf156 : (Cond.fieldLink RX7 156 "LoanSchedule$Loan" "rate" "I").before _ s9 = true := E.2.2.2.2 _ (List.mem_of_getElem? (i := 1) rfl)
  obtain ⟨⟨hn0, hn1⟩, ⟨hx0, hx1⟩, ⟨hk0, hk1⟩, hL⟩ := id hPI
  refine lv_aload_n Ex Eb dX7_rate_0 rfl (lv_at hl 0 rfl) ?_
  refine lv_iload_n Ex Eb dX7_rate_1 rfl (lv_at hl 1 rfl) ?_
  have hw : lo_Wd X (([]) ++ ([oX7 xo xi n (a 0) xh xs sv xr xt xl xa xc, oX3 (a 0) (a 1) (a 2) (Pn P), arN X (a 1) 6 b, oX0 (a 2) (a 3) (a 4) (a 5) (Px P) (Pk P), arI X (a 3) 20 (Pa P), arI X (a 4) 20 (Pb P), arI X (a 5) 20 (Pd P)] ++ ((lsW b (PL P))))) A9 s9.heap _ _ := hw
  refine lo_callVT (q0 := 0) (rest := []) E hK hw hV (kX7_loanAt l X kS hst xo xi xh xs xr xt xl xa xc n sv a b P i (by omega) (by omega)) (cwV 1 E.2.2.2.2 gX7_rate_X7_loanAt rfl rfl rfl (by decide +kernel) ⟨Nat.le_of_ble_eq_true rfl, Nat.le_of_ble_eq_true rfl⟩) rfl rfl (List.range' 0 13) (lo_ps_tail (pre := []) rfl rfl) (by decide +kernel) hl.1 rfl rfl (Nat.le_of_ble_eq_true rfl) dX7_rate_2 ⟨Nat.le_of_ble_eq_true rfl, Nat.le_of_ble_eq_true rfl⟩ (fun E9 ce9 q9 w1 H locs hq hw hx1 hx2 hx3 => ?_) (fun v w1 H locs hq hw => ?_)
  · obtain ⟨x2_0, x2_1, rfl⟩ := hq
    have hw : lo_Wd X ([oX7 xo xi n (a 0) xh xs sv xr xt xl xa xc, oX3 (a 0) (a 1) (a 2) (Pn P), arN X (a 1) 6 b, oX0 (a 2) (a 3) (a 4) (a 5) (Px P) (Pk P), arI X (a 3) 20 (Pa P), arI X (a 4) 20 (Pb P), arI X (a 5) 20 (Pd P)] ++ ((lsW b (PL P)))) A9 s9.heap H locs := hw
    exact lo_out hT9 hLk hK hAe hw hx1 hx2 hx3 rfl (Nat.le_of_ble_eq_true rfl) (Nat.le_of_ble_eq_true rfl) ⟨(x2_0), (x2_1), rfl⟩
  obtain ⟨q2_0, rfl, rfl⟩ := hq
  have hw := lo_cast (lo_sets_tail (n := 13) (k := 0) (pre := []) (w0 := [oX7 xo xi n (a 0) xh xs sv xr xt xl xa xc, oX3 (a 0) (a 1) (a 2) (Pn P), arN X (a 1) 6 b, oX0 (a 2) (a 3) (a 4) (a 5) (Px P) (Pk P), arI X (a 3) 20 (Pa P), arI X (a 4) 20 (Pb P), arI X (a 5) 20 (Pd P)] ++ ((lsW b (PL P)))) (w1 := [oX7 xo xi n (a 0) xh xs sv xr xt xl xa xc, oX3 (a 0) (a 1) (a 2) (Pn P), arN X (a 1) 6 b, oX0 (a 2) (a 3) (a 4) (a 5) (Px P) (Pk P), arI X (a 3) 20 (Pa P), arI X (a 4) 20 (Pb P), arI X (a 5) 20 (Pd P)] ++ ((lsW b (PL P)))) rfl rfl rfl) hw
  have hw : lo_Wd X ([oX7 xo xi n (a 0) xh xs sv xr xt xl xa xc, oX3 (a 0) (a 1) (a 2) (Pn P), arN X (a 1) 6 b, oX0 (a 2) (a 3) (a 4) (a 5) (Px P) (Pk P), arI X (a 3) 20 (Pa P), arI X (a 4) 20 (Pb P), arI X (a 5) 20 (Pd P)] ++ ((lsW b (PL P)))) A9 s9.heap H locs := hw
  refine W.eq (g2 := F0 m9 5 ls [.ref (b i.toNat)]) rfl ?_
  refine lo_get E hK hw huRX2 2 hf156 rfl (7 + i.toNat) (lsW_atE (k := 7) rfl (by omega)) rfl (by decide) (v := .int (iI (PL P i.toNat 2))) rfl dX7_rate_5 ?_
  refine vx_ret ?_
  exact lo_iret E hRt hLk hK hAe hw dX7_rate_8 rfl ⟨(by omega), rfl, rfl⟩
set_option maxHeartbeats 4000000 in
set_option maxRecDepth 100000 in
theorem kX7_monthsLeft (l : Launch) (X : KX) (kS : Nat → Nat) (hst : l.stackTraces = false) (xo xi xh xs xr xt xl xa xc : Nat) (n sv : Int) (a b : Nat → Nat) (P : PT) (i : Int) (hPI : PI P) (hi9 : i32 i) : CT l X kS yX7_monthsLeft wsX7_monthsLeft ({ frames := 7, cells := 1, slots := 6, locals := 121 }) [.ref xo, .int (iI i)] ([oX7 xo xi n (a 0) xh xs sv xr xt xl xa xc, oX3 (a 0) (a 1) (a 2) (Pn P), arN X (a 1) 6 b, oX0 (a 2) (a 3) (a 4) (a 5) (Px P) (Pk P), arI X (a 3) 20 (Pa P), arI X (a 4) 20 (Pb P), arI X (a 5) 20 (Pd P)] ++ ((lsW b (PL P)))) (fun v9 w9 => (0 ≤ i ∧ i < Pn P) ∧ v9 = some (.int (iI (PL P i.toNat 3))) ∧ w9 = [oX7 xo xi n (a 0) xh xs sv xr xt xl xa xc, oX3 (a 0) (a 1) (a 2) (Pn P), arN X (a 1) 6 b, oX0 (a 2) (a 3) (a 4) (a 5) (Px P) (Pk P), arI X (a 3) 20 (Pa P), arI X (a 4) 20 (Pb P), arI X (a 5) 20 (Pd P)] ++ ((lsW b (PL P)))) (fun E9 w9 => (E9 = "java/lang/IndexOutOfBoundsException") ∧ (¬ (0 ≤ i ∧ i < Pn P)) ∧ w9 = [oX7 xo xi n (a 0) xh xs sv xr xt xl xa xc, oX3 (a 0) (a 1) (a 2) (Pn P), arN X (a 1) 6 b, oX0 (a 2) (a 3) (a 4) (a 5) (Px P) (Pk P), arI X (a 3) 20 (Pa P), arI X (a 4) 20 (Pb P), arI X (a 5) 20 (Pd P)] ++ ((lsW b (PL P)))) 1 6 := by
  refine lo_enterT (cc := cX7_monthsLeft) (maxL := 2) (ret := (some .int)) (lv := [(0, .ref xo), (1, .int (iI i))]) (by decide) rfl rfl (Nat.le_of_ble_eq_true rfl) ?_
  intro p9 e9 s9 m9 bl9 me9 c9 A9 ls hAe E hRt hLk hK hl hw hV hT9
  have Ex := E.1
  have Eb := E.2.1
  have huRX2 : ∀ w ∈ u_ws RX2 TX2 10, w ∈ wsX7_monthsLeft := by decide +kernel
  have hf146 : (Cond.fieldLink RX7 146 "LoanSchedule$Loan" "monthsLeft" "I").before _ s9 = true := E.2.2.2.2 _ (List.mem_of_getElem? (i := 1) rfl)
  obtain ⟨⟨hn0, hn1⟩, ⟨hx0, hx1⟩, ⟨hk0, hk1⟩, hL⟩ := id hPI
  refine lv_aload_n Ex Eb dX7_monthsLeft_0 rfl (lv_at hl 0 rfl) ?_
  refine lv_iload_n Ex Eb dX7_monthsLeft_1 rfl (lv_at hl 1 rfl) ?_
  have hw : lo_Wd X (([]) ++ ([oX7 xo xi n (a 0) xh xs sv xr xt xl xa xc, oX3 (a 0) (a 1) (a 2) (Pn P), arN X (a 1) 6 b, oX0 (a 2) (a 3) (a 4) (a 5) (Px P) (Pk P), arI X (a 3) 20 (Pa P), arI X (a 4) 20 (Pb P), arI X (a 5) 20 (Pd P)] ++ ((lsW b (PL P))))) A9 s9.heap _ _ := hw
  refine lo_callVT (q0 := 0) (rest := []) E hK hw hV (kX7_loanAt l X kS hst xo xi xh xs xr xt xl xa xc n sv a b P i (by omega) (by omega)) (cwV 1 E.2.2.2.2 gX7_monthsLeft_X7_loanAt rfl rfl rfl (by decide +kernel) ⟨Nat.le_of_ble_eq_true rfl, Nat.le_of_ble_eq_true rfl⟩) rfl rfl (List.range' 0 13) (lo_ps_tail (pre := []) rfl rfl) (by decide +kernel) hl.1 rfl rfl (Nat.le_of_ble_eq_true rfl) dX7_monthsLeft_2 ⟨Nat.le_of_ble_eq_true rfl, Nat.le_of_ble_eq_true rfl⟩ (fun E9 ce9 q9 w1 H locs hq hw hx1 hx2 hx3 => ?_) (fun v w1 H locs hq hw => ?_)
  · obtain ⟨x2_0, x2_1, rfl⟩ := hq
    have hw : lo_Wd X ([oX7 xo xi n (a 0) xh xs sv xr xt xl xa xc, oX3 (a 0) (a 1) (a 2) (Pn P), arN X (a 1) 6 b, oX0 (a 2) (a 3) (a 4) (a 5) (Px P) (Pk P), arI X (a 3) 20 (Pa P), arI X (a 4) 20 (Pb P), arI X (a 5) 20 (Pd P)] ++ ((lsW b (PL P)))) A9 s9.heap H locs := hw
    exact lo_out hT9 hLk hK hAe hw hx1 hx2 hx3 rfl (Nat.le_of_ble_eq_true rfl) (Nat.le_of_ble_eq_true rfl) ⟨(x2_0), (x2_1), rfl⟩
  obtain ⟨q2_0, rfl, rfl⟩ := hq
  have hw := lo_cast (lo_sets_tail (n := 13) (k := 0) (pre := []) (w0 := [oX7 xo xi n (a 0) xh xs sv xr xt xl xa xc, oX3 (a 0) (a 1) (a 2) (Pn P), arN X (a 1) 6 b, oX0 (a 2) (a 3) (a 4) (a 5) (Px P) (Pk P), arI X (a 3) 20 (Pa P), arI X (a 4) 20 (Pb P), arI X (a 5) 20 (Pd P)] ++ ((lsW b (PL P)))) (w1 := [oX7 xo xi n (a 0) xh xs sv xr xt xl xa xc, oX3 (a 0) (a 1) (a 2) (Pn P), arN X (a 1) 6 b, oX0 (a 2) (a 3) (a 4) (a 5) (Px P) (Pk P), arI X (a 3) 20 (Pa P), arI X (a 4) 20 (Pb P), arI X (a 5) 20 (Pd P)] ++ ((lsW b (PL P)))) rfl rfl rfl) hw
  have hw : lo_Wd X ([oX7 xo xi n (a 0) xh xs sv xr xt xl xa xc, oX3 (a 0) (a 1) (a 2) (Pn P), arN X (a 1) 6 b, oX0 (a 2) (a 3) (a 4) (a 5) (Px P) (Pk P), arI X (a 3) 20 (Pa P), arI X (a 4) 20 (Pb P), arI X (a 5) 20 (Pd P)] ++ ((lsW b (PL P)))) A9 s9.heap H locs := hw
  refine W.eq (g2 := F0 m9 5 ls [.ref (b i.toNat)]) rfl ?_
  refine lo_get E hK hw huRX2 3 hf146 rfl (7 + i.toNat) (lsW_atE (k := 7) rfl (by omega)) rfl (by decide) (v := .int (iI (PL P i.toNat 3))) rfl dX7_monthsLeft_5 ?_
  refine vx_ret ?_
  exact lo_iret E hRt hLk hK hAe hw dX7_monthsLeft_8 rfl ⟨(by omega), rfl, rfl⟩
set_option maxHeartbeats 4000000 in
set_option maxRecDepth 100000 in
theorem kX7_installment (l : Launch) (X : KX) (kS : Nat → Nat) (hst : l.stackTraces = false) (xo xi xh xs xr xt xl xa xc : Nat) (n sv : Int) (a b : Nat → Nat) (P : PT) (i : Int) (hPI : PI P) (hi9 : i32 i) : CT l X kS yX7_installment wsX7_installment ({ frames := 7, cells := 1, slots := 6, locals := 121 }) [.ref xo, .int (iI i)] ([oX7 xo xi n (a 0) xh xs sv xr xt xl xa xc, oX3 (a 0) (a 1) (a 2) (Pn P), arN X (a 1) 6 b, oX0 (a 2) (a 3) (a 4) (a 5) (Px P) (Pk P), arI X (a 3) 20 (Pa P), arI X (a 4) 20 (Pb P), arI X (a 5) 20 (Pd P)] ++ ((lsW b (PL P)))) (fun v9 w9 => (0 ≤ i ∧ i < Pn P) ∧ v9 = some (.int (iI (PL P i.toNat 4))) ∧ w9 = [oX7 xo xi n (a 0) xh xs sv xr xt xl xa xc, oX3 (a 0) (a 1) (a 2) (Pn P), arN X (a 1) 6 b, oX0 (a 2) (a 3) (a 4) (a 5) (Px P) (Pk P), arI X (a 3) 20 (Pa P), arI X (a 4) 20 (Pb P), arI X (a 5) 20 (Pd P)] ++ ((lsW b (PL P)))) (fun E9 w9 => (E9 = "java/lang/IndexOutOfBoundsException") ∧ (¬ (0 ≤ i ∧ i < Pn P)) ∧ w9 = [oX7 xo xi n (a 0) xh xs sv xr xt xl xa xc, oX3 (a 0) (a 1) (a 2) (Pn P), arN X (a 1) 6 b, oX0 (a 2) (a 3) (a 4) (a 5) (Px P) (Pk P), arI X (a 3) 20 (Pa P), arI X (a 4) 20 (Pb P), arI X (a 5) 20 (Pd P)] ++ ((lsW b (PL P)))) 1 6 := by
  refine lo_enterT (cc := cX7_installment) (maxL := 2) (ret := (some .int)) (lv := [(0, .ref xo), (1, .int (iI i))]) (by decide) rfl rfl (Nat.le_of_ble_eq_true rfl) ?_
  intro p9 e9 s9 m9 bl9 me9 c9 A9 ls hAe E hRt hLk hK hl hw hV hT9
  have Ex := E.1
  have Eb := E.2.1
  have huRX2 : ∀ w ∈ u_ws RX2 TX2 10, w ∈ wsX7_installment := by decide +kernel
  have hf185 : (Cond.fieldLink RX7 185 "LoanSchedule$Loan" "installment" "I").before _ s9 = true := E.2.2.2.2 _ (List.mem_of_getElem? (i := 1) rfl)
  obtain ⟨⟨hn0, hn1⟩, ⟨hx0, hx1⟩, ⟨hk0, hk1⟩, hL⟩ := id hPI
  refine lv_aload_n Ex Eb dX7_installment_0 rfl (lv_at hl 0 rfl) ?_
  refine lv_iload_n Ex Eb dX7_installment_1 rfl (lv_at hl 1 rfl) ?_
  have hw : lo_Wd X (([]) ++ ([oX7 xo xi n (a 0) xh xs sv xr xt xl xa xc, oX3 (a 0) (a 1) (a 2) (Pn P), arN X (a 1) 6 b, oX0 (a 2) (a 3) (a 4) (a 5) (Px P) (Pk P), arI X (a 3) 20 (Pa P), arI X (a 4) 20 (Pb P), arI X (a 5) 20 (Pd P)] ++ ((lsW b (PL P))))) A9 s9.heap _ _ := hw
  refine lo_callVT (q0 := 0) (rest := []) E hK hw hV (kX7_loanAt l X kS hst xo xi xh xs xr xt xl xa xc n sv a b P i (by omega) (by omega)) (cwV 1 E.2.2.2.2 gX7_installment_X7_loanAt rfl rfl rfl (by decide +kernel) ⟨Nat.le_of_ble_eq_true rfl, Nat.le_of_ble_eq_true rfl⟩) rfl rfl (List.range' 0 13) (lo_ps_tail (pre := []) rfl rfl) (by decide +kernel) hl.1 rfl rfl (Nat.le_of_ble_eq_true rfl) dX7_installment_2 ⟨Nat.le_of_ble_eq_true rfl, Nat.le_of_ble_eq_true rfl⟩ (fun E9 ce9 q9 w1 H locs hq hw hx1 hx2 hx3 => ?_) (fun v w1 H locs hq hw => ?_)
  · obtain ⟨x2_0, x2_1, rfl⟩ := hq
    have hw : lo_Wd X ([oX7 xo xi n (a 0) xh xs sv xr xt xl xa xc, oX3 (a 0) (a 1) (a 2) (Pn P), arN X (a 1) 6 b, oX0 (a 2) (a 3) (a 4) (a 5) (Px P) (Pk P), arI X (a 3) 20 (Pa P), arI X (a 4) 20 (Pb P), arI X (a 5) 20 (Pd P)] ++ ((lsW b (PL P)))) A9 s9.heap H locs := hw
    exact lo_out hT9 hLk hK hAe hw hx1 hx2 hx3 rfl (Nat.le_of_ble_eq_true rfl) (Nat.le_of_ble_eq_true rfl) ⟨(x2_0), (x2_1), rfl⟩
  obtain ⟨q2_0, rfl, rfl⟩ := hq
  have hw := lo_cast (lo_sets_tail (n := 13) (k := 0) (pre := []) (w0 := [oX7 xo xi n (a 0) xh xs sv xr xt xl xa xc, oX3 (a 0) (a 1) (a 2) (Pn P), arN X (a 1) 6 b, oX0 (a 2) (a 3) (a 4) (a 5) (Px P) (Pk P), arI X (a 3) 20 (Pa P), arI X (a 4) 20 (Pb P), arI X (a 5) 20 (Pd P)] ++ ((lsW b (PL P)))) (w1 := [oX7 xo xi n (a 0) xh xs sv xr xt xl xa xc, oX3 (a 0) (a 1) (a 2) (Pn P), arN X (a 1) 6 b, oX0 (a 2) (a 3) (a 4) (a 5) (Px P) (Pk P), arI X (a 3) 20 (Pa P), arI X (a 4) 20 (Pb P), arI X (a 5) 20 (Pd P)] ++ ((lsW b (PL P)))) rfl rfl rfl) hw
  have hw : lo_Wd X ([oX7 xo xi n (a 0) xh xs sv xr xt xl xa xc, oX3 (a 0) (a 1) (a 2) (Pn P), arN X (a 1) 6 b, oX0 (a 2) (a 3) (a 4) (a 5) (Px P) (Pk P), arI X (a 3) 20 (Pa P), arI X (a 4) 20 (Pb P), arI X (a 5) 20 (Pd P)] ++ ((lsW b (PL P)))) A9 s9.heap H locs := hw
  refine W.eq (g2 := F0 m9 5 ls [.ref (b i.toNat)]) rfl ?_
  refine lo_get E hK hw huRX2 4 hf185 rfl (7 + i.toNat) (lsW_atE (k := 7) rfl (by omega)) rfl (by decide) (v := .int (iI (PL P i.toNat 4))) rfl dX7_installment_5 ?_
  refine vx_ret ?_
  exact lo_iret E hRt hLk hK hAe hw dX7_installment_8 rfl ⟨(by omega), rfl, rfl⟩
set_option maxHeartbeats 4000000 in
set_option maxRecDepth 100000 in
theorem kX7_carry (l : Launch) (X : KX) (kS : Nat → Nat) (hst : l.stackTraces = false) (xo xi xh xs xr xt xl xa xc : Nat) (n sv : Int) (a b : Nat → Nat) (P : PT) (i : Int) (hPI : PI P) (hi9 : i32 i) : CT l X kS yX7_carry wsX7_carry ({ frames := 7, cells := 1, slots := 6, locals := 121 }) [.ref xo, .int (iI i)] ([oX7 xo xi n (a 0) xh xs sv xr xt xl xa xc, oX3 (a 0) (a 1) (a 2) (Pn P), arN X (a 1) 6 b, oX0 (a 2) (a 3) (a 4) (a 5) (Px P) (Pk P), arI X (a 3) 20 (Pa P), arI X (a 4) 20 (Pb P), arI X (a 5) 20 (Pd P)] ++ ((lsW b (PL P)))) (fun v9 w9 => (0 ≤ i ∧ i < Pn P) ∧ v9 = some (.int (iI (PL P i.toNat 5))) ∧ w9 = [oX7 xo xi n (a 0) xh xs sv xr xt xl xa xc, oX3 (a 0) (a 1) (a 2) (Pn P), arN X (a 1) 6 b, oX0 (a 2) (a 3) (a 4) (a 5) (Px P) (Pk P), arI X (a 3) 20 (Pa P), arI X (a 4) 20 (Pb P), arI X (a 5) 20 (Pd P)] ++ ((lsW b (PL P)))) (fun E9 w9 => (E9 = "java/lang/IndexOutOfBoundsException") ∧ (¬ (0 ≤ i ∧ i < Pn P)) ∧ w9 = [oX7 xo xi n (a 0) xh xs sv xr xt xl xa xc, oX3 (a 0) (a 1) (a 2) (Pn P), arN X (a 1) 6 b, oX0 (a 2) (a 3) (a 4) (a 5) (Px P) (Pk P), arI X (a 3) 20 (Pa P), arI X (a 4) 20 (Pb P), arI X (a 5) 20 (Pd P)] ++ ((lsW b (PL P)))) 1 6 := by
  refine lo_enterT (cc := cX7_carry) (maxL := 2) (ret := (some .int)) (lv := [(0, .ref xo), (1, .int (iI i))]) (by decide) rfl rfl (Nat.le_of_ble_eq_true rfl) ?_
  intro p9 e9 s9 m9 bl9 me9 c9 A9 ls hAe E hRt hLk hK hl hw hV hT9
  have Ex := E.1
  have Eb := E.2.1
  have huRX2 : ∀ w ∈ u_ws RX2 TX2 10, w ∈ wsX7_carry := by decide +kernel
  have hf188 : (Cond.fieldLink RX7 188 "LoanSchedule$Loan" "carry" "I").before _ s9 = true := E.2.2.2.2 _ (List.mem_of_getElem? (i := 1) rfl)
  obtain ⟨⟨hn0, hn1⟩, ⟨hx0, hx1⟩, ⟨hk0, hk1⟩, hL⟩ := id hPI
  refine lv_aload_n Ex Eb dX7_carry_0 rfl (lv_at hl 0 rfl) ?_
  refine lv_iload_n Ex Eb dX7_carry_1 rfl (lv_at hl 1 rfl) ?_
  have hw : lo_Wd X (([]) ++ ([oX7 xo xi n (a 0) xh xs sv xr xt xl xa xc, oX3 (a 0) (a 1) (a 2) (Pn P), arN X (a 1) 6 b, oX0 (a 2) (a 3) (a 4) (a 5) (Px P) (Pk P), arI X (a 3) 20 (Pa P), arI X (a 4) 20 (Pb P), arI X (a 5) 20 (Pd P)] ++ ((lsW b (PL P))))) A9 s9.heap _ _ := hw
  refine lo_callVT (q0 := 0) (rest := []) E hK hw hV (kX7_loanAt l X kS hst xo xi xh xs xr xt xl xa xc n sv a b P i (by omega) (by omega)) (cwV 1 E.2.2.2.2 gX7_carry_X7_loanAt rfl rfl rfl (by decide +kernel) ⟨Nat.le_of_ble_eq_true rfl, Nat.le_of_ble_eq_true rfl⟩) rfl rfl (List.range' 0 13) (lo_ps_tail (pre := []) rfl rfl) (by decide +kernel) hl.1 rfl rfl (Nat.le_of_ble_eq_true rfl) dX7_carry_2 ⟨Nat.le_of_ble_eq_true rfl, Nat.le_of_ble_eq_true rfl⟩ (fun E9 ce9 q9 w1 H locs hq hw hx1 hx2 hx3 => ?_) (fun v w1 H locs hq hw => ?_)
  · obtain ⟨x2_0, x2_1, rfl⟩ := hq
    have hw : lo_Wd X ([oX7 xo xi n (a 0) xh xs sv xr xt xl xa xc, oX3 (a 0) (a 1) (a 2) (Pn P), arN X (a 1) 6 b, oX0 (a 2) (a 3) (a 4) (a 5) (Px P) (Pk P), arI X (a 3) 20 (Pa P), arI X (a 4) 20 (Pb P), arI X (a 5) 20 (Pd P)] ++ ((lsW b (PL P)))) A9 s9.heap H locs := hw
    exact lo_out hT9 hLk hK hAe hw hx1 hx2 hx3 rfl (Nat.le_of_ble_eq_true rfl) (Nat.le_of_ble_eq_true rfl) ⟨(x2_0), (x2_1), rfl⟩
  obtain ⟨q2_0, rfl, rfl⟩ := hq
  have hw := lo_cast (lo_sets_tail (n := 13) (k := 0) (pre := []) (w0 := [oX7 xo xi n (a 0) xh xs sv xr xt xl xa xc, oX3 (a 0) (a 1) (a 2) (Pn P), arN X (a 1) 6 b, oX0 (a 2) (a 3) (a 4) (a 5) (Px P) (Pk P), arI X (a 3) 20 (Pa P), arI X (a 4) 20 (Pb P), arI X (a 5) 20 (Pd P)] ++ ((lsW b (PL P)))) (w1 := [oX7 xo xi n (a 0) xh xs sv xr xt xl xa xc, oX3 (a 0) (a 1) (a 2) (Pn P), arN X (a 1) 6 b, oX0 (a 2) (a 3) (a 4) (a 5) (Px P) (Pk P), arI X (a 3) 20 (Pa P), arI X (a 4) 20 (Pb P), arI X (a 5) 20 (Pd P)] ++ ((lsW b (PL P)))) rfl rfl rfl) hw
  have hw : lo_Wd X ([oX7 xo xi n (a 0) xh xs sv xr xt xl xa xc, oX3 (a 0) (a 1) (a 2) (Pn P), arN X (a 1) 6 b, oX0 (a 2) (a 3) (a 4) (a 5) (Px P) (Pk P), arI X (a 3) 20 (Pa P), arI X (a 4) 20 (Pb P), arI X (a 5) 20 (Pd P)] ++ ((lsW b (PL P)))) A9 s9.heap H locs := hw
  refine W.eq (g2 := F0 m9 5 ls [.ref (b i.toNat)]) rfl ?_
  refine lo_get E hK hw huRX2 5 hf188 rfl (7 + i.toNat) (lsW_atE (k := 7) rfl (by omega)) rfl (by decide) (v := .int (iI (PL P i.toNat 5))) rfl dX7_carry_5 ?_
  refine vx_ret ?_
  exact lo_iret E hRt hLk hK hAe hw dX7_carry_8 rfl ⟨(by omega), rfl, rfl⟩
set_option maxHeartbeats 4000000 in
set_option maxRecDepth 100000 in
theorem kX7_interestSoFar (l : Launch) (X : KX) (kS : Nat → Nat) (hst : l.stackTraces = false) (xo xi xh xs xr xt xl xa xc : Nat) (n sv : Int) (a b : Nat → Nat) (P : PT) (i : Int) (hPI : PI P) (hi9 : i32 i) : CT l X kS yX7_interestSoFar wsX7_interestSoFar ({ frames := 7, cells := 1, slots := 6, locals := 121 }) [.ref xo, .int (iI i)] ([oX7 xo xi n (a 0) xh xs sv xr xt xl xa xc, oX3 (a 0) (a 1) (a 2) (Pn P), arN X (a 1) 6 b, oX0 (a 2) (a 3) (a 4) (a 5) (Px P) (Pk P), arI X (a 3) 20 (Pa P), arI X (a 4) 20 (Pb P), arI X (a 5) 20 (Pd P)] ++ ((lsW b (PL P)))) (fun v9 w9 => (0 ≤ i ∧ i < Pn P) ∧ v9 = some (.int (iI (PL P i.toNat 6))) ∧ w9 = [oX7 xo xi n (a 0) xh xs sv xr xt xl xa xc, oX3 (a 0) (a 1) (a 2) (Pn P), arN X (a 1) 6 b, oX0 (a 2) (a 3) (a 4) (a 5) (Px P) (Pk P), arI X (a 3) 20 (Pa P), arI X (a 4) 20 (Pb P), arI X (a 5) 20 (Pd P)] ++ ((lsW b (PL P)))) (fun E9 w9 => (E9 = "java/lang/IndexOutOfBoundsException") ∧ (¬ (0 ≤ i ∧ i < Pn P)) ∧ w9 = [oX7 xo xi n (a 0) xh xs sv xr xt xl xa xc, oX3 (a 0) (a 1) (a 2) (Pn P), arN X (a 1) 6 b, oX0 (a 2) (a 3) (a 4) (a 5) (Px P) (Pk P), arI X (a 3) 20 (Pa P), arI X (a 4) 20 (Pb P), arI X (a 5) 20 (Pd P)] ++ ((lsW b (PL P)))) 1 6 := by
  refine lo_enterT (cc := cX7_interestSoFar) (maxL := 2) (ret := (some .int)) (lv := [(0, .ref xo), (1, .int (iI i))]) (by decide) rfl rfl (Nat.le_of_ble_eq_true rfl) ?_
  intro p9 e9 s9 m9 bl9 me9 c9 A9 ls hAe E hRt hLk hK hl hw hV hT9
  have Ex := E.1
  have Eb := E.2.1
  have huRX2 : ∀ w ∈ u_ws RX2 TX2 10, w ∈ wsX7_interestSoFar := by decide +kernel
  have hf197 : (Cond.fieldLink RX7 197 "LoanSchedule$Loan" "interestSum" "I").before _ s9 = true := E.2.2.2.2 _ (List.mem_of_getElem? (i := 1) rfl)
  obtain ⟨⟨hn0, hn1⟩, ⟨hx0, hx1⟩, ⟨hk0, hk1⟩, hL⟩ := id hPI
  refine lv_aload_n Ex Eb dX7_interestSoFar_0 rfl (lv_at hl 0 rfl) ?_
  refine lv_iload_n Ex Eb dX7_interestSoFar_1 rfl (lv_at hl 1 rfl) ?_
  have hw : lo_Wd X (([]) ++ ([oX7 xo xi n (a 0) xh xs sv xr xt xl xa xc, oX3 (a 0) (a 1) (a 2) (Pn P), arN X (a 1) 6 b, oX0 (a 2) (a 3) (a 4) (a 5) (Px P) (Pk P), arI X (a 3) 20 (Pa P), arI X (a 4) 20 (Pb P), arI X (a 5) 20 (Pd P)] ++ ((lsW b (PL P))))) A9 s9.heap _ _ := hw
  refine lo_callVT (q0 := 0) (rest := []) E hK hw hV (kX7_loanAt l X kS hst xo xi xh xs xr xt xl xa xc n sv a b P i (by omega) (by omega)) (cwV 1 E.2.2.2.2 gX7_interestSoFar_X7_loanAt rfl rfl rfl (by decide +kernel) ⟨Nat.le_of_ble_eq_true rfl, Nat.le_of_ble_eq_true rfl⟩) rfl rfl (List.range' 0 13) (lo_ps_tail (pre := []) rfl rfl) (by decide +kernel) hl.1 rfl rfl (Nat.le_of_ble_eq_true rfl) dX7_interestSoFar_2 ⟨Nat.le_of_ble_eq_true rfl, Nat.le_of_ble_eq_true rfl⟩ (fun E9 ce9 q9 w1 H locs hq hw hx1 hx2 hx3 => ?_) (fun v w1 H locs hq hw => ?_)
  · obtain ⟨x2_0, x2_1, rfl⟩ := hq
    have hw : lo_Wd X ([oX7 xo xi n (a 0) xh xs sv xr xt xl xa xc, oX3 (a 0) (a 1) (a 2) (Pn P), arN X (a 1) 6 b, oX0 (a 2) (a 3) (a 4) (a 5) (Px P) (Pk P), arI X (a 3) 20 (Pa P), arI X (a 4) 20 (Pb P), arI X (a 5) 20 (Pd P)] ++ ((lsW b (PL P)))) A9 s9.heap H locs := hw
    exact lo_out hT9 hLk hK hAe hw hx1 hx2 hx3 rfl (Nat.le_of_ble_eq_true rfl) (Nat.le_of_ble_eq_true rfl) ⟨(x2_0), (x2_1), rfl⟩
  obtain ⟨q2_0, rfl, rfl⟩ := hq
  have hw := lo_cast (lo_sets_tail (n := 13) (k := 0) (pre := []) (w0 := [oX7 xo xi n (a 0) xh xs sv xr xt xl xa xc, oX3 (a 0) (a 1) (a 2) (Pn P), arN X (a 1) 6 b, oX0 (a 2) (a 3) (a 4) (a 5) (Px P) (Pk P), arI X (a 3) 20 (Pa P), arI X (a 4) 20 (Pb P), arI X (a 5) 20 (Pd P)] ++ ((lsW b (PL P)))) (w1 := [oX7 xo xi n (a 0) xh xs sv xr xt xl xa xc, oX3 (a 0) (a 1) (a 2) (Pn P), arN X (a 1) 6 b, oX0 (a 2) (a 3) (a 4) (a 5) (Px P) (Pk P), arI X (a 3) 20 (Pa P), arI X (a 4) 20 (Pb P), arI X (a 5) 20 (Pd P)] ++ ((lsW b (PL P)))) rfl rfl rfl) hw
  have hw : lo_Wd X ([oX7 xo xi n (a 0) xh xs sv xr xt xl xa xc, oX3 (a 0) (a 1) (a 2) (Pn P), arN X (a 1) 6 b, oX0 (a 2) (a 3) (a 4) (a 5) (Px P) (Pk P), arI X (a 3) 20 (Pa P), arI X (a 4) 20 (Pb P), arI X (a 5) 20 (Pd P)] ++ ((lsW b (PL P)))) A9 s9.heap H locs := hw
  refine W.eq (g2 := F0 m9 5 ls [.ref (b i.toNat)]) rfl ?_
  refine lo_get E hK hw huRX2 6 hf197 rfl (7 + i.toNat) (lsW_atE (k := 7) rfl (by omega)) rfl (by decide) (v := .int (iI (PL P i.toNat 6))) rfl dX7_interestSoFar_5 ?_
  refine vx_ret ?_
  exact lo_iret E hRt hLk hK hAe hw dX7_interestSoFar_8 rfl ⟨(by omega), rfl, rfl⟩
set_option maxHeartbeats 4000000 in
set_option maxRecDepth 100000 in
theorem kX7_paidSoFar (l : Launch) (X : KX) (kS : Nat → Nat) (hst : l.stackTraces = false) (xo xi xh xs xr xt xl xa xc : Nat) (n sv : Int) (a b : Nat → Nat) (P : PT) (i : Int) (hPI : PI P) (hi9 : i32 i) : CT l X kS yX7_paidSoFar wsX7_paidSoFar ({ frames := 7, cells := 1, slots := 6, locals := 121 }) [.ref xo, .int (iI i)] ([oX7 xo xi n (a 0) xh xs sv xr xt xl xa xc, oX3 (a 0) (a 1) (a 2) (Pn P), arN X (a 1) 6 b, oX0 (a 2) (a 3) (a 4) (a 5) (Px P) (Pk P), arI X (a 3) 20 (Pa P), arI X (a 4) 20 (Pb P), arI X (a 5) 20 (Pd P)] ++ ((lsW b (PL P)))) (fun v9 w9 => (0 ≤ i ∧ i < Pn P) ∧ v9 = some (.int (iI (PL P i.toNat 7))) ∧ w9 = [oX7 xo xi n (a 0) xh xs sv xr xt xl xa xc, oX3 (a 0) (a 1) (a 2) (Pn P), arN X (a 1) 6 b, oX0 (a 2) (a 3) (a 4) (a 5) (Px P) (Pk P), arI X (a 3) 20 (Pa P), arI X (a 4) 20 (Pb P), arI X (a 5) 20 (Pd P)] ++ ((lsW b (PL P)))) (fun E9 w9 => (E9 = "java/lang/IndexOutOfBoundsException") ∧ (¬ (0 ≤ i ∧ i < Pn P)) ∧ w9 = [oX7 xo xi n (a 0) xh xs sv xr xt xl xa xc, oX3 (a 0) (a 1) (a 2) (Pn P), arN X (a 1) 6 b, oX0 (a 2) (a 3) (a 4) (a 5) (Px P) (Pk P), arI X (a 3) 20 (Pa P), arI X (a 4) 20 (Pb P), arI X (a 5) 20 (Pd P)] ++ ((lsW b (PL P)))) 1 6 := by
  refine lo_enterT (cc := cX7_paidSoFar) (maxL := 2) (ret := (some .int)) (lv := [(0, .ref xo), (1, .int (iI i))]) (by decide) rfl rfl (Nat.le_of_ble_eq_true rfl) ?_
  intro p9 e9 s9 m9 bl9 me9 c9 A9 ls hAe E hRt hLk hK hl hw hV hT9
  have Ex := E.1
  have Eb := E.2.1
  have huRX2 : ∀ w ∈ u_ws RX2 TX2 10, w ∈ wsX7_paidSoFar := by decide +kernel
  have hf200 : (Cond.fieldLink RX7 200 "LoanSchedule$Loan" "paidSum" "I").before _ s9 = true := E.2.2.2.2 _ (List.mem_of_getElem? (i := 1) rfl)
  obtain ⟨⟨hn0, hn1⟩, ⟨hx0, hx1⟩, ⟨hk0, hk1⟩, hL⟩ := id hPI
  refine lv_aload_n Ex Eb dX7_paidSoFar_0 rfl (lv_at hl 0 rfl) ?_
  refine lv_iload_n Ex Eb dX7_paidSoFar_1 rfl (lv_at hl 1 rfl) ?_
  have hw : lo_Wd X (([]) ++ ([oX7 xo xi n (a 0) xh xs sv xr xt xl xa xc, oX3 (a 0) (a 1) (a 2) (Pn P), arN X (a 1) 6 b, oX0 (a 2) (a 3) (a 4) (a 5) (Px P) (Pk P), arI X (a 3) 20 (Pa P), arI X (a 4) 20 (Pb P), arI X (a 5) 20 (Pd P)] ++ ((lsW b (PL P))))) A9 s9.heap _ _ := hw
  refine lo_callVT (q0 := 0) (rest := []) E hK hw hV (kX7_loanAt l X kS hst xo xi xh xs xr xt xl xa xc n sv a b P i (by omega) (by omega)) (cwV 1 E.2.2.2.2 gX7_paidSoFar_X7_loanAt rfl rfl rfl (by decide +kernel) ⟨Nat.le_of_ble_eq_true rfl, Nat.le_of_ble_eq_true rfl⟩) rfl rfl (List.range' 0 13) (lo_ps_tail (pre := []) rfl rfl) (by decide +kernel) hl.1 rfl rfl (Nat.le_of_ble_eq_true rfl) dX7_paidSoFar_2 ⟨Nat.le_of_ble_eq_true rfl, Nat.le_of_ble_eq_true rfl⟩ (fun E9 ce9 q9 w1 H locs hq hw hx1 hx2 hx3 => ?_) (fun v w1 H locs hq hw => ?_)
  · obtain ⟨x2_0, x2_1, rfl⟩ := hq
    have hw : lo_Wd X ([oX7 xo xi n (a 0) xh xs sv xr xt xl xa xc, oX3 (a 0) (a 1) (a 2) (Pn P), arN X (a 1) 6 b, oX0 (a 2) (a 3) (a 4) (a 5) (Px P) (Pk P), arI X (a 3) 20 (Pa P), arI X (a 4) 20 (Pb P), arI X (a 5) 20 (Pd P)] ++ ((lsW b (PL P)))) A9 s9.heap H locs := hw
    exact lo_out hT9 hLk hK hAe hw hx1 hx2 hx3 rfl (Nat.le_of_ble_eq_true rfl) (Nat.le_of_ble_eq_true rfl) ⟨(x2_0), (x2_1), rfl⟩
  obtain ⟨q2_0, rfl, rfl⟩ := hq
  have hw := lo_cast (lo_sets_tail (n := 13) (k := 0) (pre := []) (w0 := [oX7 xo xi n (a 0) xh xs sv xr xt xl xa xc, oX3 (a 0) (a 1) (a 2) (Pn P), arN X (a 1) 6 b, oX0 (a 2) (a 3) (a 4) (a 5) (Px P) (Pk P), arI X (a 3) 20 (Pa P), arI X (a 4) 20 (Pb P), arI X (a 5) 20 (Pd P)] ++ ((lsW b (PL P)))) (w1 := [oX7 xo xi n (a 0) xh xs sv xr xt xl xa xc, oX3 (a 0) (a 1) (a 2) (Pn P), arN X (a 1) 6 b, oX0 (a 2) (a 3) (a 4) (a 5) (Px P) (Pk P), arI X (a 3) 20 (Pa P), arI X (a 4) 20 (Pb P), arI X (a 5) 20 (Pd P)] ++ ((lsW b (PL P)))) rfl rfl rfl) hw
  have hw : lo_Wd X ([oX7 xo xi n (a 0) xh xs sv xr xt xl xa xc, oX3 (a 0) (a 1) (a 2) (Pn P), arN X (a 1) 6 b, oX0 (a 2) (a 3) (a 4) (a 5) (Px P) (Pk P), arI X (a 3) 20 (Pa P), arI X (a 4) 20 (Pb P), arI X (a 5) 20 (Pd P)] ++ ((lsW b (PL P)))) A9 s9.heap H locs := hw
  refine W.eq (g2 := F0 m9 5 ls [.ref (b i.toNat)]) rfl ?_
  refine lo_get E hK hw huRX2 7 hf200 rfl (7 + i.toNat) (lsW_atE (k := 7) rfl (by omega)) rfl (by decide) (v := .int (iI (PL P i.toNat 7))) rfl dX7_paidSoFar_5 ?_
  refine vx_ret ?_
  exact lo_iret E hRt hLk hK hAe hw dX7_paidSoFar_8 rfl ⟨(by omega), rfl, rfl⟩
set_option maxHeartbeats 4000000 in
set_option maxRecDepth 100000 in
theorem kX7_paidMonths (l : Launch) (X : KX) (kS : Nat → Nat) (hst : l.stackTraces = false) (xo xi xh xs xr xt xl xa xc : Nat) (n sv : Int) (a b : Nat → Nat) (P : PT) (i : Int) (hPI : PI P) (hi9 : i32 i) : CT l X kS yX7_paidMonths wsX7_paidMonths ({ frames := 7, cells := 1, slots := 6, locals := 121 }) [.ref xo, .int (iI i)] ([oX7 xo xi n (a 0) xh xs sv xr xt xl xa xc, oX3 (a 0) (a 1) (a 2) (Pn P), arN X (a 1) 6 b, oX0 (a 2) (a 3) (a 4) (a 5) (Px P) (Pk P), arI X (a 3) 20 (Pa P), arI X (a 4) 20 (Pb P), arI X (a 5) 20 (Pd P)] ++ ((lsW b (PL P)))) (fun v9 w9 => (0 ≤ i ∧ i < Pn P) ∧ v9 = some (.int (iI (PL P i.toNat 8))) ∧ w9 = [oX7 xo xi n (a 0) xh xs sv xr xt xl xa xc, oX3 (a 0) (a 1) (a 2) (Pn P), arN X (a 1) 6 b, oX0 (a 2) (a 3) (a 4) (a 5) (Px P) (Pk P), arI X (a 3) 20 (Pa P), arI X (a 4) 20 (Pb P), arI X (a 5) 20 (Pd P)] ++ ((lsW b (PL P)))) (fun E9 w9 => (E9 = "java/lang/IndexOutOfBoundsException") ∧ (¬ (0 ≤ i ∧ i < Pn P)) ∧ w9 = [oX7 xo xi n (a 0) xh xs sv xr xt xl xa xc, oX3 (a 0) (a 1) (a 2) (Pn P), arN X (a 1) 6 b, oX0 (a 2) (a 3) (a 4) (a 5) (Px P) (Pk P), arI X (a 3) 20 (Pa P), arI X (a 4) 20 (Pb P), arI X (a 5) 20 (Pd P)] ++ ((lsW b (PL P)))) 1 6 := by
  refine lo_enterT (cc := cX7_paidMonths) (maxL := 2) (ret := (some .int)) (lv := [(0, .ref xo), (1, .int (iI i))]) (by decide) rfl rfl (Nat.le_of_ble_eq_true rfl) ?_
  intro p9 e9 s9 m9 bl9 me9 c9 A9 ls hAe E hRt hLk hK hl hw hV hT9
  have Ex := E.1
  have Eb := E.2.1
  have huRX2 : ∀ w ∈ u_ws RX2 TX2 10, w ∈ wsX7_paidMonths := by decide +kernel
  have hf203 : (Cond.fieldLink RX7 203 "LoanSchedule$Loan" "settledCount" "I").before _ s9 = true := E.2.2.2.2 _ (List.mem_of_getElem? (i := 1) rfl)
  obtain ⟨⟨hn0, hn1⟩, ⟨hx0, hx1⟩, ⟨hk0, hk1⟩, hL⟩ := id hPI
  refine lv_aload_n Ex Eb dX7_paidMonths_0 rfl (lv_at hl 0 rfl) ?_
  refine lv_iload_n Ex Eb dX7_paidMonths_1 rfl (lv_at hl 1 rfl) ?_
  have hw : lo_Wd X (([]) ++ ([oX7 xo xi n (a 0) xh xs sv xr xt xl xa xc, oX3 (a 0) (a 1) (a 2) (Pn P), arN X (a 1) 6 b, oX0 (a 2) (a 3) (a 4) (a 5) (Px P) (Pk P), arI X (a 3) 20 (Pa P), arI X (a 4) 20 (Pb P), arI X (a 5) 20 (Pd P)] ++ ((lsW b (PL P))))) A9 s9.heap _ _ := hw
  refine lo_callVT (q0 := 0) (rest := []) E hK hw hV (kX7_loanAt l X kS hst xo xi xh xs xr xt xl xa xc n sv a b P i (by omega) (by omega)) (cwV 1 E.2.2.2.2 gX7_paidMonths_X7_loanAt rfl rfl rfl (by decide +kernel) ⟨Nat.le_of_ble_eq_true rfl, Nat.le_of_ble_eq_true rfl⟩) rfl rfl (List.range' 0 13) (lo_ps_tail (pre := []) rfl rfl) (by decide +kernel) hl.1 rfl rfl (Nat.le_of_ble_eq_true rfl) dX7_paidMonths_2 ⟨Nat.le_of_ble_eq_true rfl, Nat.le_of_ble_eq_true rfl⟩ (fun E9 ce9 q9 w1 H locs hq hw hx1 hx2 hx3 => ?_) (fun v w1 H locs hq hw => ?_)
  · obtain ⟨x2_0, x2_1, rfl⟩ := hq
    have hw : lo_Wd X ([oX7 xo xi n (a 0) xh xs sv xr xt xl xa xc, oX3 (a 0) (a 1) (a 2) (Pn P), arN X (a 1) 6 b, oX0 (a 2) (a 3) (a 4) (a 5) (Px P) (Pk P), arI X (a 3) 20 (Pa P), arI X (a 4) 20 (Pb P), arI X (a 5) 20 (Pd P)] ++ ((lsW b (PL P)))) A9 s9.heap H locs := hw
    exact lo_out hT9 hLk hK hAe hw hx1 hx2 hx3 rfl (Nat.le_of_ble_eq_true rfl) (Nat.le_of_ble_eq_true rfl) ⟨(x2_0), (x2_1), rfl⟩
  obtain ⟨q2_0, rfl, rfl⟩ := hq
  have hw := lo_cast (lo_sets_tail (n := 13) (k := 0) (pre := []) (w0 := [oX7 xo xi n (a 0) xh xs sv xr xt xl xa xc, oX3 (a 0) (a 1) (a 2) (Pn P), arN X (a 1) 6 b, oX0 (a 2) (a 3) (a 4) (a 5) (Px P) (Pk P), arI X (a 3) 20 (Pa P), arI X (a 4) 20 (Pb P), arI X (a 5) 20 (Pd P)] ++ ((lsW b (PL P)))) (w1 := [oX7 xo xi n (a 0) xh xs sv xr xt xl xa xc, oX3 (a 0) (a 1) (a 2) (Pn P), arN X (a 1) 6 b, oX0 (a 2) (a 3) (a 4) (a 5) (Px P) (Pk P), arI X (a 3) 20 (Pa P), arI X (a 4) 20 (Pb P), arI X (a 5) 20 (Pd P)] ++ ((lsW b (PL P)))) rfl rfl rfl) hw
  have hw : lo_Wd X ([oX7 xo xi n (a 0) xh xs sv xr xt xl xa xc, oX3 (a 0) (a 1) (a 2) (Pn P), arN X (a 1) 6 b, oX0 (a 2) (a 3) (a 4) (a 5) (Px P) (Pk P), arI X (a 3) 20 (Pa P), arI X (a 4) 20 (Pb P), arI X (a 5) 20 (Pd P)] ++ ((lsW b (PL P)))) A9 s9.heap H locs := hw
  refine W.eq (g2 := F0 m9 5 ls [.ref (b i.toNat)]) rfl ?_
  refine lo_get E hK hw huRX2 8 hf203 rfl (7 + i.toNat) (lsW_atE (k := 7) rfl (by omega)) rfl (by decide) (v := .int (iI (PL P i.toNat 8))) rfl dX7_paidMonths_5 ?_
  refine vx_ret ?_
  exact lo_iret E hRt hLk hK hAe hw dX7_paidMonths_8 rfl ⟨(by omega), rfl, rfl⟩
set_option maxHeartbeats 4000000 in
set_option maxRecDepth 100000 in
theorem kX7_skippedMonths (l : Launch) (X : KX) (kS : Nat → Nat) (hst : l.stackTraces = false) (xo xi xh xs xr xt xl xa xc : Nat) (n sv : Int) (a b : Nat → Nat) (P : PT) (i : Int) (hPI : PI P) (hi9 : i32 i) : CT l X kS yX7_skippedMonths wsX7_skippedMonths ({ frames := 7, cells := 1, slots := 6, locals := 121 }) [.ref xo, .int (iI i)] ([oX7 xo xi n (a 0) xh xs sv xr xt xl xa xc, oX3 (a 0) (a 1) (a 2) (Pn P), arN X (a 1) 6 b, oX0 (a 2) (a 3) (a 4) (a 5) (Px P) (Pk P), arI X (a 3) 20 (Pa P), arI X (a 4) 20 (Pb P), arI X (a 5) 20 (Pd P)] ++ ((lsW b (PL P)))) (fun v9 w9 => (0 ≤ i ∧ i < Pn P) ∧ v9 = some (.int (iI (PL P i.toNat 9))) ∧ w9 = [oX7 xo xi n (a 0) xh xs sv xr xt xl xa xc, oX3 (a 0) (a 1) (a 2) (Pn P), arN X (a 1) 6 b, oX0 (a 2) (a 3) (a 4) (a 5) (Px P) (Pk P), arI X (a 3) 20 (Pa P), arI X (a 4) 20 (Pb P), arI X (a 5) 20 (Pd P)] ++ ((lsW b (PL P)))) (fun E9 w9 => (E9 = "java/lang/IndexOutOfBoundsException") ∧ (¬ (0 ≤ i ∧ i < Pn P)) ∧ w9 = [oX7 xo xi n (a 0) xh xs sv xr xt xl xa xc, oX3 (a 0) (a 1) (a 2) (Pn P), arN X (a 1) 6 b, oX0 (a 2) (a 3) (a 4) (a 5) (Px P) (Pk P), arI X (a 3) 20 (Pa P), arI X (a 4) 20 (Pb P), arI X (a 5) 20 (Pd P)] ++ ((lsW b (PL P)))) 1 6 := by
  refine lo_enterT (cc := cX7_skippedMonths) (maxL := 2) (ret := (some .int)) (lv := [(0, .ref xo), (1, .int (iI i))]) (by decide) rfl rfl (Nat.le_of_ble_eq_true rfl) ?_
  intro p9 e9 s9 m9 bl9 me9 c9 A9 ls hAe E hRt hLk hK hl hw hV hT9
  have Ex := E.1
  have Eb := E.2.1
  have huRX2 : ∀ w ∈ u_ws RX2 TX2 10, w ∈ wsX7_skippedMonths := by decide +kernel
  have hf206 : (Cond.fieldLink RX7 206 "LoanSchedule$Loan" "deferredCount" "I").before _ s9 = true := E.2.2.2.2 _ (List.mem_of_getElem? (i := 1) rfl)
  obtain ⟨⟨hn0, hn1⟩, ⟨hx0, hx1⟩, ⟨hk0, hk1⟩, hL⟩ := id hPI
  refine lv_aload_n Ex Eb dX7_skippedMonths_0 rfl (lv_at hl 0 rfl) ?_
  refine lv_iload_n Ex Eb dX7_skippedMonths_1 rfl (lv_at hl 1 rfl) ?_
  have hw : lo_Wd X (([]) ++ ([oX7 xo xi n (a 0) xh xs sv xr xt xl xa xc, oX3 (a 0) (a 1) (a 2) (Pn P), arN X (a 1) 6 b, oX0 (a 2) (a 3) (a 4) (a 5) (Px P) (Pk P), arI X (a 3) 20 (Pa P), arI X (a 4) 20 (Pb P), arI X (a 5) 20 (Pd P)] ++ ((lsW b (PL P))))) A9 s9.heap _ _ := hw
  refine lo_callVT (q0 := 0) (rest := []) E hK hw hV (kX7_loanAt l X kS hst xo xi xh xs xr xt xl xa xc n sv a b P i (by omega) (by omega)) (cwV 1 E.2.2.2.2 gX7_skippedMonths_X7_loanAt rfl rfl rfl (by decide +kernel) ⟨Nat.le_of_ble_eq_true rfl, Nat.le_of_ble_eq_true rfl⟩) rfl rfl (List.range' 0 13) (lo_ps_tail (pre := []) rfl rfl) (by decide +kernel) hl.1 rfl rfl (Nat.le_of_ble_eq_true rfl) dX7_skippedMonths_2 ⟨Nat.le_of_ble_eq_true rfl, Nat.le_of_ble_eq_true rfl⟩ (fun E9 ce9 q9 w1 H locs hq hw hx1 hx2 hx3 => ?_) (fun v w1 H locs hq hw => ?_)
  · obtain ⟨x2_0, x2_1, rfl⟩ := hq
    have hw : lo_Wd X ([oX7 xo xi n (a 0) xh xs sv xr xt xl xa xc, oX3 (a 0) (a 1) (a 2) (Pn P), arN X (a 1) 6 b, oX0 (a 2) (a 3) (a 4) (a 5) (Px P) (Pk P), arI X (a 3) 20 (Pa P), arI X (a 4) 20 (Pb P), arI X (a 5) 20 (Pd P)] ++ ((lsW b (PL P)))) A9 s9.heap H locs := hw
    exact lo_out hT9 hLk hK hAe hw hx1 hx2 hx3 rfl (Nat.le_of_ble_eq_true rfl) (Nat.le_of_ble_eq_true rfl) ⟨(x2_0), (x2_1), rfl⟩
  obtain ⟨q2_0, rfl, rfl⟩ := hq
  have hw := lo_cast (lo_sets_tail (n := 13) (k := 0) (pre := []) (w0 := [oX7 xo xi n (a 0) xh xs sv xr xt xl xa xc, oX3 (a 0) (a 1) (a 2) (Pn P), arN X (a 1) 6 b, oX0 (a 2) (a 3) (a 4) (a 5) (Px P) (Pk P), arI X (a 3) 20 (Pa P), arI X (a 4) 20 (Pb P), arI X (a 5) 20 (Pd P)] ++ ((lsW b (PL P)))) (w1 := [oX7 xo xi n (a 0) xh xs sv xr xt xl xa xc, oX3 (a 0) (a 1) (a 2) (Pn P), arN X (a 1) 6 b, oX0 (a 2) (a 3) (a 4) (a 5) (Px P) (Pk P), arI X (a 3) 20 (Pa P), arI X (a 4) 20 (Pb P), arI X (a 5) 20 (Pd P)] ++ ((lsW b (PL P)))) rfl rfl rfl) hw
  have hw : lo_Wd X ([oX7 xo xi n (a 0) xh xs sv xr xt xl xa xc, oX3 (a 0) (a 1) (a 2) (Pn P), arN X (a 1) 6 b, oX0 (a 2) (a 3) (a 4) (a 5) (Px P) (Pk P), arI X (a 3) 20 (Pa P), arI X (a 4) 20 (Pb P), arI X (a 5) 20 (Pd P)] ++ ((lsW b (PL P)))) A9 s9.heap H locs := hw
  refine W.eq (g2 := F0 m9 5 ls [.ref (b i.toNat)]) rfl ?_
  refine lo_get E hK hw huRX2 9 hf206 rfl (7 + i.toNat) (lsW_atE (k := 7) rfl (by omega)) rfl (by decide) (v := .int (iI (PL P i.toNat 9))) rfl dX7_skippedMonths_5 ?_
  refine vx_ret ?_
  exact lo_iret E hRt hLk hK hAe hw dX7_skippedMonths_8 rfl ⟨(by omega), rfl, rfl⟩
set_option maxHeartbeats 4000000 in
set_option maxRecDepth 100000 in
theorem kX7_isOpen (l : Launch) (X : KX) (kS : Nat → Nat) (hst : l.stackTraces = false) (xo xi xh xs xr xt xl xa xc : Nat) (n sv : Int) (a b : Nat → Nat) (P : PT) (i : Int) (hPI : PI P) (hi9 : i32 i) : CT l X kS yX7_isOpen wsX7_isOpen ({ frames := 7, cells := 1, slots := 6, locals := 121 }) [.ref xo, .int (iI i)] ([oX7 xo xi n (a 0) xh xs sv xr xt xl xa xc, oX3 (a 0) (a 1) (a 2) (Pn P), arN X (a 1) 6 b, oX0 (a 2) (a 3) (a 4) (a 5) (Px P) (Pk P), arI X (a 3) 20 (Pa P), arI X (a 4) 20 (Pb P), arI X (a 5) 20 (Pd P)] ++ ((lsW b (PL P)))) (fun v9 w9 => ∃ z : Int, (0 ≤ i ∧ i < Pn P) ∧ ((z = 1 ∧ 0 < PL P i.toNat 1) ∨ (z = 0 ∧ PL P i.toNat 1 ≤ 0)) ∧ v9 = some (.int (iI z)) ∧ w9 = [oX7 xo xi n (a 0) xh xs sv xr xt xl xa xc, oX3 (a 0) (a 1) (a 2) (Pn P), arN X (a 1) 6 b, oX0 (a 2) (a 3) (a 4) (a 5) (Px P) (Pk P), arI X (a 3) 20 (Pa P), arI X (a 4) 20 (Pb P), arI X (a 5) 20 (Pd P)] ++ ((lsW b (PL P)))) (fun E9 w9 => (E9 = "java/lang/IndexOutOfBoundsException") ∧ (¬ (0 ≤ i ∧ i < Pn P)) ∧ w9 = [oX7 xo xi n (a 0) xh xs sv xr xt xl xa xc, oX3 (a 0) (a 1) (a 2) (Pn P), arN X (a 1) 6 b, oX0 (a 2) (a 3) (a 4) (a 5) (Px P) (Pk P), arI X (a 3) 20 (Pa P), arI X (a 4) 20 (Pb P), arI X (a 5) 20 (Pd P)] ++ ((lsW b (PL P)))) 1 6 := by
  refine lo_enterT (cc := cX7_isOpen) (maxL := 2) (ret := (some .boolean)) (lv := [(0, .ref xo), (1, .int (iI i))]) (by decide) rfl rfl (Nat.le_of_ble_eq_true rfl) ?_
  intro p9 e9 s9 m9 bl9 me9 c9 A9 ls hAe E hRt hLk hK hl hw hV hT9
  have Ex := E.1
  have Eb := E.2.1
  obtain ⟨⟨hn0, hn1⟩, ⟨hx0, hx1⟩, ⟨hk0, hk1⟩, hL⟩ := id hPI
  refine lv_aload_n Ex Eb dX7_isOpen_0 rfl (lv_at hl 0 rfl) ?_
  refine lv_iload_n Ex Eb dX7_isOpen_1 rfl (lv_at hl 1 rfl) ?_
  have hw : lo_Wd X (([]) ++ ([oX7 xo xi n (a 0) xh xs sv xr xt xl xa xc, oX3 (a 0) (a 1) (a 2) (Pn P), arN X (a 1) 6 b, oX0 (a 2) (a 3) (a 4) (a 5) (Px P) (Pk P), arI X (a 3) 20 (Pa P), arI X (a 4) 20 (Pb P), arI X (a 5) 20 (Pd P)] ++ ((lsW b (PL P))))) A9 s9.heap _ _ := hw
  refine lo_callVT (q0 := 0) (rest := []) E hK hw hV (kX7_loanAt l X kS hst xo xi xh xs xr xt xl xa xc n sv a b P i (by omega) (by omega)) (cwV 1 E.2.2.2.2 gX7_isOpen_X7_loanAt rfl rfl rfl (by decide +kernel) ⟨Nat.le_of_ble_eq_true rfl, Nat.le_of_ble_eq_true rfl⟩) rfl rfl (List.range' 0 13) (lo_ps_tail (pre := []) rfl rfl) (by decide +kernel) hl.1 rfl rfl (Nat.le_of_ble_eq_true rfl) dX7_isOpen_2 ⟨Nat.le_of_ble_eq_true rfl, Nat.le_of_ble_eq_true rfl⟩ (fun E9 ce9 q9 w1 H locs hq hw hx1 hx2 hx3 => ?_) (fun v w1 H locs hq hw => ?_)
  · obtain ⟨x2_0, x2_1, rfl⟩ := hq
    have hw : lo_Wd X ([oX7 xo xi n (a 0) xh xs sv xr xt xl xa xc, oX3 (a 0) (a 1) (a 2) (Pn P), arN X (a 1) 6 b, oX0 (a 2) (a 3) (a 4) (a 5) (Px P) (Pk P), arI X (a 3) 20 (Pa P), arI X (a 4) 20 (Pb P), arI X (a 5) 20 (Pd P)] ++ ((lsW b (PL P)))) A9 s9.heap H locs := hw
    exact lo_out hT9 hLk hK hAe hw hx1 hx2 hx3 rfl (Nat.le_of_ble_eq_true rfl) (Nat.le_of_ble_eq_true rfl) ⟨(x2_0), (x2_1), rfl⟩
  obtain ⟨q2_0, rfl, rfl⟩ := hq
  have hw := lo_cast (lo_sets_tail (n := 13) (k := 0) (pre := []) (w0 := [oX7 xo xi n (a 0) xh xs sv xr xt xl xa xc, oX3 (a 0) (a 1) (a 2) (Pn P), arN X (a 1) 6 b, oX0 (a 2) (a 3) (a 4) (a 5) (Px P) (Pk P), arI X (a 3) 20 (Pa P), arI X (a 4) 20 (Pb P), arI X (a 5) 20 (Pd P)] ++ ((lsW b (PL P)))) (w1 := [oX7 xo xi n (a 0) xh xs sv xr xt xl xa xc, oX3 (a 0) (a 1) (a 2) (Pn P), arN X (a 1) 6 b, oX0 (a 2) (a 3) (a 4) (a 5) (Px P) (Pk P), arI X (a 3) 20 (Pa P), arI X (a 4) 20 (Pb P), arI X (a 5) 20 (Pd P)] ++ ((lsW b (PL P)))) rfl rfl rfl) hw
  have hw : lo_Wd X ([oX7 xo xi n (a 0) xh xs sv xr xt xl xa xc, oX3 (a 0) (a 1) (a 2) (Pn P), arN X (a 1) 6 b, oX0 (a 2) (a 3) (a 4) (a 5) (Px P) (Pk P), arI X (a 3) 20 (Pa P), arI X (a 4) 20 (Pb P), arI X (a 5) 20 (Pd P)] ++ ((lsW b (PL P)))) A9 s9.heap H locs := hw
  refine W.eq (g2 := F0 m9 5 ls [.ref (b i.toNat)]) rfl ?_
  have hLi := hL i.toNat (by omega)
  obtain ⟨⟨hb0, hb1⟩, ⟨hr0, hr1⟩, ⟨hc0, hc1⟩, ⟨hm0, hm1⟩, ⟨hi0, hi1⟩, ⟨hs0, hs1⟩, hop, hcl⟩ := id hLi
  refine lo_callV (q0 := (7 + i.toNat)) (rest := []) E hK hw (kX2_isRunning l X (b i.toNat) (PL P i.toNat) (by omega)) (cwV 0 E.2.2.2.2 gX7_isOpen_X2_isRunning rfl rfl rfl (by decide +kernel) ⟨Nat.le_of_ble_eq_true rfl, Nat.le_of_ble_eq_true rfl⟩) (lsW_atE (k := 7) rfl (by omega)) rfl [7 + i.toNat] (lo_ps_cons (lsW_atE (k := 7) rfl (by omega)) lo_ps_nil) (by simp [va_nd]) hl.1 rfl rfl (Nat.le_of_ble_eq_true rfl) dX7_isOpen_5 ⟨Nat.le_of_ble_eq_true rfl, Nat.le_of_ble_eq_true rfl⟩ (fun v w1 H locs hq hw => ?_)
  obtain ⟨r1, q5_0, rfl, rfl⟩ := hq
  have hw := lo_cast (lsW_cE0 (k := 7) rfl (by omega)) hw
  have hw : lo_Wd X ([oX7 xo xi n (a 0) xh xs sv xr xt xl xa xc, oX3 (a 0) (a 1) (a 2) (Pn P), arN X (a 1) 6 b, oX0 (a 2) (a 3) (a 4) (a 5) (Px P) (Pk P), arI X (a 3) 20 (Pa P), arI X (a 4) 20 (Pb P), arI X (a 5) 20 (Pd P)] ++ ((lsW b (PL P)))) A9 s9.heap H locs := hw
  refine W.eq (g2 := F0 m9 8 ls [.int (iI r1)]) rfl ?_
  refine vx_ret ?_
  exact lo_zret E hRt hLk hK hAe hw dX7_isOpen_8 (nar_b (by omega)) rfl ⟨r1, (by omega), (by omega), rfl, rfl⟩
set_option maxHeartbeats 4000000 in
set_option maxRecDepth 100000 in
theorem kX7_interestDue (l : Launch) (X : KX) (kS : Nat → Nat) (hst : l.stackTraces = false) (xo xi xh xs xr xt xl xa xc : Nat) (n sv : Int) (a b : Nat → Nat) (P : PT) (i : Int) (hPI : PI P) (hi9 : i32 i) : CT l X kS yX7_interestDue wsX7_interestDue ({ frames := 7, cells := 1, slots := 6, locals := 121 }) [.ref xo, .int (iI i)] ([oX7 xo xi n (a 0) xh xs sv xr xt xl xa xc, oX3 (a 0) (a 1) (a 2) (Pn P), arN X (a 1) 6 b, oX0 (a 2) (a 3) (a 4) (a 5) (Px P) (Pk P), arI X (a 3) 20 (Pa P), arI X (a 4) 20 (Pb P), arI X (a 5) 20 (Pd P)] ++ ((lsW b (PL P)))) (fun v9 w9 => (0 ≤ i ∧ i < Pn P) ∧ v9 = some (.int (iI (fI (PL P i.toNat 1) (PL P i.toNat 2) (PL P i.toNat 5)))) ∧ w9 = [oX7 xo xi n (a 0) xh xs sv xr xt xl xa xc, oX3 (a 0) (a 1) (a 2) (Pn P), arN X (a 1) 6 b, oX0 (a 2) (a 3) (a 4) (a 5) (Px P) (Pk P), arI X (a 3) 20 (Pa P), arI X (a 4) 20 (Pb P), arI X (a 5) 20 (Pd P)] ++ ((lsW b (PL P)))) (fun E9 w9 => (E9 = "java/lang/IndexOutOfBoundsException") ∧ (¬ (0 ≤ i ∧ i < Pn P)) ∧ w9 = [oX7 xo xi n (a 0) xh xs sv xr xt xl xa xc, oX3 (a 0) (a 1) (a 2) (Pn P), arN X (a 1) 6 b, oX0 (a 2) (a 3) (a 4) (a 5) (Px P) (Pk P), arI X (a 3) 20 (Pa P), arI X (a 4) 20 (Pb P), arI X (a 5) 20 (Pd P)] ++ ((lsW b (PL P)))) 1 6 := by
  refine lo_enterT (cc := cX7_interestDue) (maxL := 2) (ret := (some .int)) (lv := [(0, .ref xo), (1, .int (iI i))]) (by decide) rfl rfl (Nat.le_of_ble_eq_true rfl) ?_
  intro p9 e9 s9 m9 bl9 me9 c9 A9 ls hAe E hRt hLk hK hl hw hV hT9
  have Ex := E.1
  have Eb := E.2.1
  obtain ⟨⟨hn0, hn1⟩, ⟨hx0, hx1⟩, ⟨hk0, hk1⟩, hL⟩ := id hPI
  refine lv_aload_n Ex Eb dX7_interestDue_0 rfl (lv_at hl 0 rfl) ?_
  refine lv_iload_n Ex Eb dX7_interestDue_1 rfl (lv_at hl 1 rfl) ?_
  have hw : lo_Wd X (([]) ++ ([oX7 xo xi n (a 0) xh xs sv xr xt xl xa xc, oX3 (a 0) (a 1) (a 2) (Pn P), arN X (a 1) 6 b, oX0 (a 2) (a 3) (a 4) (a 5) (Px P) (Pk P), arI X (a 3) 20 (Pa P), arI X (a 4) 20 (Pb P), arI X (a 5) 20 (Pd P)] ++ ((lsW b (PL P))))) A9 s9.heap _ _ := hw
  refine lo_callVT (q0 := 0) (rest := []) E hK hw hV (kX7_loanAt l X kS hst xo xi xh xs xr xt xl xa xc n sv a b P i (by omega) (by omega)) (cwV 1 E.2.2.2.2 gX7_interestDue_X7_loanAt rfl rfl rfl (by decide +kernel) ⟨Nat.le_of_ble_eq_true rfl, Nat.le_of_ble_eq_true rfl⟩) rfl rfl (List.range' 0 13) (lo_ps_tail (pre := []) rfl rfl) (by decide +kernel) hl.1 rfl rfl (Nat.le_of_ble_eq_true rfl) dX7_interestDue_2 ⟨Nat.le_of_ble_eq_true rfl, Nat.le_of_ble_eq_true rfl⟩ (fun E9 ce9 q9 w1 H locs hq hw hx1 hx2 hx3 => ?_) (fun v w1 H locs hq hw => ?_)
  · obtain ⟨x2_0, x2_1, rfl⟩ := hq
    have hw : lo_Wd X ([oX7 xo xi n (a 0) xh xs sv xr xt xl xa xc, oX3 (a 0) (a 1) (a 2) (Pn P), arN X (a 1) 6 b, oX0 (a 2) (a 3) (a 4) (a 5) (Px P) (Pk P), arI X (a 3) 20 (Pa P), arI X (a 4) 20 (Pb P), arI X (a 5) 20 (Pd P)] ++ ((lsW b (PL P)))) A9 s9.heap H locs := hw
    exact lo_out hT9 hLk hK hAe hw hx1 hx2 hx3 rfl (Nat.le_of_ble_eq_true rfl) (Nat.le_of_ble_eq_true rfl) ⟨(x2_0), (x2_1), rfl⟩
  obtain ⟨q2_0, rfl, rfl⟩ := hq
  have hw := lo_cast (lo_sets_tail (n := 13) (k := 0) (pre := []) (w0 := [oX7 xo xi n (a 0) xh xs sv xr xt xl xa xc, oX3 (a 0) (a 1) (a 2) (Pn P), arN X (a 1) 6 b, oX0 (a 2) (a 3) (a 4) (a 5) (Px P) (Pk P), arI X (a 3) 20 (Pa P), arI X (a 4) 20 (Pb P), arI X (a 5) 20 (Pd P)] ++ ((lsW b (PL P)))) (w1 := [oX7 xo xi n (a 0) xh xs sv xr xt xl xa xc, oX3 (a 0) (a 1) (a 2) (Pn P), arN X (a 1) 6 b, oX0 (a 2) (a 3) (a 4) (a 5) (Px P) (Pk P), arI X (a 3) 20 (Pa P), arI X (a 4) 20 (Pb P), arI X (a 5) 20 (Pd P)] ++ ((lsW b (PL P)))) rfl rfl rfl) hw
  have hw : lo_Wd X ([oX7 xo xi n (a 0) xh xs sv xr xt xl xa xc, oX3 (a 0) (a 1) (a 2) (Pn P), arN X (a 1) 6 b, oX0 (a 2) (a 3) (a 4) (a 5) (Px P) (Pk P), arI X (a 3) 20 (Pa P), arI X (a 4) 20 (Pb P), arI X (a 5) 20 (Pd P)] ++ ((lsW b (PL P)))) A9 s9.heap H locs := hw
  refine W.eq (g2 := F0 m9 5 ls [.ref (b i.toNat)]) rfl ?_
  have hLi := hL i.toNat (by omega)
  obtain ⟨⟨hb0, hb1⟩, ⟨hr0, hr1⟩, ⟨hc0, hc1⟩, ⟨hm0, hm1⟩, ⟨hi0, hi1⟩, ⟨hs0, hs1⟩, hop, hcl⟩ := id hLi
  refine lo_callV (q0 := (7 + i.toNat)) (rest := []) E hK hw (kX2_nextInterest l X (b i.toNat) (PL P i.toNat) (by omega) (by omega) (by omega) (by omega) (by omega) (by omega)) (cwV 0 E.2.2.2.2 gX7_interestDue_X2_nextInterest rfl rfl rfl (by decide +kernel) ⟨Nat.le_of_ble_eq_true rfl, Nat.le_of_ble_eq_true rfl⟩) (lsW_atE (k := 7) rfl (by omega)) rfl [7 + i.toNat] (lo_ps_cons (lsW_atE (k := 7) rfl (by omega)) lo_ps_nil) (by simp [va_nd]) hl.1 rfl rfl (Nat.le_of_ble_eq_true rfl) dX7_interestDue_5 ⟨Nat.le_of_ble_eq_true rfl, Nat.le_of_ble_eq_true rfl⟩ (fun v w1 H locs hq hw => ?_)
  obtain ⟨rfl, rfl⟩ := hq
  have hw := lo_cast (lsW_cE0 (k := 7) rfl (by omega)) hw
  have hw : lo_Wd X ([oX7 xo xi n (a 0) xh xs sv xr xt xl xa xc, oX3 (a 0) (a 1) (a 2) (Pn P), arN X (a 1) 6 b, oX0 (a 2) (a 3) (a 4) (a 5) (Px P) (Pk P), arI X (a 3) 20 (Pa P), arI X (a 4) 20 (Pb P), arI X (a 5) 20 (Pd P)] ++ ((lsW b (PL P)))) A9 s9.heap H locs := hw
  refine W.eq (g2 := F0 m9 8 ls [.int (iI (fI (PL P i.toNat 1) (PL P i.toNat 2) (PL P i.toNat 5)))]) rfl ?_
  refine vx_ret ?_
  exact lo_iret E hRt hLk hK hAe hw dX7_interestDue_8 rfl ⟨(by omega), rfl, rfl⟩
set_option maxHeartbeats 4000000 in
set_option maxRecDepth 100000 in
theorem kX7_amountDue (l : Launch) (X : KX) (kS : Nat → Nat) (hst : l.stackTraces = false) (xo xi xh xs xr xt xl xa xc : Nat) (n sv : Int) (a b : Nat → Nat) (P : PT) (i : Int) (hPI : PI P) (hi9 : i32 i) : CT l X kS yX7_amountDue wsX7_amountDue ({ frames := 7, cells := 1, slots := 6, locals := 121 }) [.ref xo, .int (iI i)] ([oX7 xo xi n (a 0) xh xs sv xr xt xl xa xc, oX3 (a 0) (a 1) (a 2) (Pn P), arN X (a 1) 6 b, oX0 (a 2) (a 3) (a 4) (a 5) (Px P) (Pk P), arI X (a 3) 20 (Pa P), arI X (a 4) 20 (Pb P), arI X (a 5) 20 (Pd P)] ++ ((lsW b (PL P)))) (fun v9 w9 => (0 ≤ i ∧ i < Pn P) ∧ v9 = some (.int (iI (dueL (PL P i.toNat)))) ∧ w9 = [oX7 xo xi n (a 0) xh xs sv xr xt xl xa xc, oX3 (a 0) (a 1) (a 2) (Pn P), arN X (a 1) 6 b, oX0 (a 2) (a 3) (a 4) (a 5) (Px P) (Pk P), arI X (a 3) 20 (Pa P), arI X (a 4) 20 (Pb P), arI X (a 5) 20 (Pd P)] ++ ((lsW b (PL P)))) (fun E9 w9 => (E9 = "java/lang/IndexOutOfBoundsException") ∧ (¬ (0 ≤ i ∧ i < Pn P)) ∧ w9 = [oX7 xo xi n (a 0) xh xs sv xr xt xl xa xc, oX3 (a 0) (a 1) (a 2) (Pn P), arN X (a 1) 6 b, oX0 (a 2) (a 3) (a 4) (a 5) (Px P) (Pk P), arI X (a 3) 20 (Pa P), arI X (a 4) 20 (Pb P), arI X (a 5) 20 (Pd P)] ++ ((lsW b (PL P)))) 1 6 := by
  refine lo_enterT (cc := cX7_amountDue) (maxL := 2) (ret := (some .int)) (lv := [(0, .ref xo), (1, .int (iI i))]) (by decide) rfl rfl (Nat.le_of_ble_eq_true rfl) ?_
  intro p9 e9 s9 m9 bl9 me9 c9 A9 ls hAe E hRt hLk hK hl hw hV hT9
  have Ex := E.1
  have Eb := E.2.1
  obtain ⟨⟨hn0, hn1⟩, ⟨hx0, hx1⟩, ⟨hk0, hk1⟩, hL⟩ := id hPI
  refine lv_aload_n Ex Eb dX7_amountDue_0 rfl (lv_at hl 0 rfl) ?_
  refine lv_iload_n Ex Eb dX7_amountDue_1 rfl (lv_at hl 1 rfl) ?_
  have hw : lo_Wd X (([]) ++ ([oX7 xo xi n (a 0) xh xs sv xr xt xl xa xc, oX3 (a 0) (a 1) (a 2) (Pn P), arN X (a 1) 6 b, oX0 (a 2) (a 3) (a 4) (a 5) (Px P) (Pk P), arI X (a 3) 20 (Pa P), arI X (a 4) 20 (Pb P), arI X (a 5) 20 (Pd P)] ++ ((lsW b (PL P))))) A9 s9.heap _ _ := hw
  refine lo_callVT (q0 := 0) (rest := []) E hK hw hV (kX7_loanAt l X kS hst xo xi xh xs xr xt xl xa xc n sv a b P i (by omega) (by omega)) (cwV 1 E.2.2.2.2 gX7_amountDue_X7_loanAt rfl rfl rfl (by decide +kernel) ⟨Nat.le_of_ble_eq_true rfl, Nat.le_of_ble_eq_true rfl⟩) rfl rfl (List.range' 0 13) (lo_ps_tail (pre := []) rfl rfl) (by decide +kernel) hl.1 rfl rfl (Nat.le_of_ble_eq_true rfl) dX7_amountDue_2 ⟨Nat.le_of_ble_eq_true rfl, Nat.le_of_ble_eq_true rfl⟩ (fun E9 ce9 q9 w1 H locs hq hw hx1 hx2 hx3 => ?_) (fun v w1 H locs hq hw => ?_)
  · obtain ⟨x2_0, x2_1, rfl⟩ := hq
    have hw : lo_Wd X ([oX7 xo xi n (a 0) xh xs sv xr xt xl xa xc, oX3 (a 0) (a 1) (a 2) (Pn P), arN X (a 1) 6 b, oX0 (a 2) (a 3) (a 4) (a 5) (Px P) (Pk P), arI X (a 3) 20 (Pa P), arI X (a 4) 20 (Pb P), arI X (a 5) 20 (Pd P)] ++ ((lsW b (PL P)))) A9 s9.heap H locs := hw
    exact lo_out hT9 hLk hK hAe hw hx1 hx2 hx3 rfl (Nat.le_of_ble_eq_true rfl) (Nat.le_of_ble_eq_true rfl) ⟨(x2_0), (x2_1), rfl⟩
  obtain ⟨q2_0, rfl, rfl⟩ := hq
  have hw := lo_cast (lo_sets_tail (n := 13) (k := 0) (pre := []) (w0 := [oX7 xo xi n (a 0) xh xs sv xr xt xl xa xc, oX3 (a 0) (a 1) (a 2) (Pn P), arN X (a 1) 6 b, oX0 (a 2) (a 3) (a 4) (a 5) (Px P) (Pk P), arI X (a 3) 20 (Pa P), arI X (a 4) 20 (Pb P), arI X (a 5) 20 (Pd P)] ++ ((lsW b (PL P)))) (w1 := [oX7 xo xi n (a 0) xh xs sv xr xt xl xa xc, oX3 (a 0) (a 1) (a 2) (Pn P), arN X (a 1) 6 b, oX0 (a 2) (a 3) (a 4) (a 5) (Px P) (Pk P), arI X (a 3) 20 (Pa P), arI X (a 4) 20 (Pb P), arI X (a 5) 20 (Pd P)] ++ ((lsW b (PL P)))) rfl rfl rfl) hw
  have hw : lo_Wd X ([oX7 xo xi n (a 0) xh xs sv xr xt xl xa xc, oX3 (a 0) (a 1) (a 2) (Pn P), arN X (a 1) 6 b, oX0 (a 2) (a 3) (a 4) (a 5) (Px P) (Pk P), arI X (a 3) 20 (Pa P), arI X (a 4) 20 (Pb P), arI X (a 5) 20 (Pd P)] ++ ((lsW b (PL P)))) A9 s9.heap H locs := hw
  refine W.eq (g2 := F0 m9 5 ls [.ref (b i.toNat)]) rfl ?_
  have hLi := hL i.toNat (by omega)
  obtain ⟨⟨hb0, hb1⟩, ⟨hr0, hr1⟩, ⟨hc0, hc1⟩, ⟨hm0, hm1⟩, ⟨hi0, hi1⟩, ⟨hs0, hs1⟩, hop, hcl⟩ := id hLi
  refine lo_callV (q0 := (7 + i.toNat)) (rest := []) E hK hw (kX2_nextDue l X (b i.toNat) (PL P i.toNat) (by omega) (by omega) (by omega) (by omega) (by omega) (by omega) (by omega) (by omega)) (cwV 0 E.2.2.2.2 gX7_amountDue_X2_nextDue rfl rfl rfl (by decide +kernel) ⟨Nat.le_of_ble_eq_true rfl, Nat.le_of_ble_eq_true rfl⟩) (lsW_atE (k := 7) rfl (by omega)) rfl [7 + i.toNat] (lo_ps_cons (lsW_atE (k := 7) rfl (by omega)) lo_ps_nil) (by simp [va_nd]) hl.1 rfl rfl (Nat.le_of_ble_eq_true rfl) dX7_amountDue_5 ⟨Nat.le_of_ble_eq_true rfl, Nat.le_of_ble_eq_true rfl⟩ (fun v w1 H locs hq hw => ?_)
  obtain ⟨rfl, rfl⟩ := hq
  have hw := lo_cast (lsW_cE0 (k := 7) rfl (by omega)) hw
  have hw : lo_Wd X ([oX7 xo xi n (a 0) xh xs sv xr xt xl xa xc, oX3 (a 0) (a 1) (a 2) (Pn P), arN X (a 1) 6 b, oX0 (a 2) (a 3) (a 4) (a 5) (Px P) (Pk P), arI X (a 3) 20 (Pa P), arI X (a 4) 20 (Pb P), arI X (a 5) 20 (Pd P)] ++ ((lsW b (PL P)))) A9 s9.heap H locs := hw
  refine W.eq (g2 := F0 m9 8 ls [.int (iI (dueL (PL P i.toNat)))]) rfl ?_
  refine vx_ret ?_
  exact lo_iret E hRt hLk hK hAe hw dX7_amountDue_8 rfl ⟨(by omega), rfl, rfl⟩
set_option maxHeartbeats 4000000 in
set_option maxRecDepth 100000 in
theorem kX7_loanCount (l : Launch) (X : KX) (xo xi xh xs xr xt xl xa xc : Nat) (n sv : Int) (a b : Nat → Nat) (P : PT) (hPI : PI P) : CM l X yX7_loanCount wsX7_loanCount ({ frames := 0, cells := 0, slots := 0, locals := 0 }) [.ref xo] ([oX7 xo xi n (a 0) xh xs sv xr xt xl xa xc, oX3 (a 0) (a 1) (a 2) (Pn P), arN X (a 1) 6 b, oX0 (a 2) (a 3) (a 4) (a 5) (Px P) (Pk P), arI X (a 3) 20 (Pa P), arI X (a 4) 20 (Pb P), arI X (a 5) 20 (Pd P)] ++ ((lsW b (PL P)))) (fun v9 w9 => v9 = some (.int (iI (Pn P))) ∧ w9 = [oX7 xo xi n (a 0) xh xs sv xr xt xl xa xc, oX3 (a 0) (a 1) (a 2) (Pn P), arN X (a 1) 6 b, oX0 (a 2) (a 3) (a 4) (a 5) (Px P) (Pk P), arI X (a 3) 20 (Pa P), arI X (a 4) 20 (Pb P), arI X (a 5) 20 (Pd P)] ++ ((lsW b (PL P)))) 0 0 := by
  refine lo_enter (cc := cX7_loanCount) (maxL := 1) (ret := (some .int)) (lv := [(0, .ref xo)]) (by decide) rfl rfl (Nat.le_of_ble_eq_true rfl) ?_
  intro p9 e9 s9 m9 bl9 me9 c9 A9 ls hAe E hRt hLk hK hl hw
  have Ex := E.1
  have Eb := E.2.1
  have huRX7 : ∀ w ∈ u_ws RX7 TX7 11, w ∈ wsX7_loanCount := by decide +kernel
  have hf20 : (Cond.fieldLink RX7 20 "LoanSchedule" "plan" "LLoanSchedule$Plan;").before _ s9 = true := E.2.2.2.2 _ (List.mem_of_getElem? (i := 1) rfl)
  have huRX3 : ∀ w ∈ u_ws RX3 TX3 3, w ∈ wsX7_loanCount := by decide +kernel
  have hf100 : (Cond.fieldLink RX7 100 "LoanSchedule$Plan" "count" "I").before _ s9 = true := E.2.2.2.2 _ (List.mem_of_getElem? (i := 2) rfl)
  refine lv_aload_n Ex Eb dX7_loanCount_0 rfl (lv_at hl 0 rfl) ?_
  refine lo_get E hK hw huRX7 2 hf20 rfl 0 rfl rfl (by decide) (v := .ref (a 0)) rfl dX7_loanCount_1 ?_
  refine lo_get E hK hw huRX3 2 hf100 rfl 1 rfl rfl (by decide) (v := .int (iI (Pn P))) rfl dX7_loanCount_4 ?_
  exact lo_iret E hRt hLk hK hAe hw dX7_loanCount_7 rfl ⟨rfl, rfl⟩
set_option maxHeartbeats 4000000 in
set_option maxRecDepth 100000 in
theorem kX7_openCount (l : Launch) (X : KX) (xo xi xh xs xr xt xl xa xc : Nat) (n sv : Int) (a b : Nat → Nat) (P : PT) (hPI : PI P) : CM l X yX7_openCount wsX7_openCount ({ frames := 2, cells := 0, slots := 0, locals := 42 }) [.ref xo] ([oX7 xo xi n (a 0) xh xs sv xr xt xl xa xc, oX3 (a 0) (a 1) (a 2) (Pn P), arN X (a 1) 6 b, oX0 (a 2) (a 3) (a 4) (a 5) (Px P) (Pk P), arI X (a 3) 20 (Pa P), arI X (a 4) 20 (Pb P), arI X (a 5) 20 (Pd P)] ++ ((lsW b (PL P)))) (fun v9 w9 => v9 = some (.int (iI (cnt (PL P) (Pn P).toNat))) ∧ w9 = [oX7 xo xi n (a 0) xh xs sv xr xt xl xa xc, oX3 (a 0) (a 1) (a 2) (Pn P), arN X (a 1) 6 b, oX0 (a 2) (a 3) (a 4) (a 5) (Px P) (Pk P), arI X (a 3) 20 (Pa P), arI X (a 4) 20 (Pb P), arI X (a 5) 20 (Pd P)] ++ ((lsW b (PL P)))) 0 0 := by
  refine lo_enter (cc := cX7_openCount) (maxL := 1) (ret := (some .int)) (lv := [(0, .ref xo)]) (by decide) rfl rfl (Nat.le_of_ble_eq_true rfl) ?_
  intro p9 e9 s9 m9 bl9 me9 c9 A9 ls hAe E hRt hLk hK hl hw
  have Ex := E.1
  have Eb := E.2.1
  have huRX7 : ∀ w ∈ u_ws RX7 TX7 11, w ∈ wsX7_openCount := by decide +kernel
  have hf20 : (Cond.fieldLink RX7 20 "LoanSchedule" "plan" "LLoanSchedule$Plan;").before _ s9 = true := E.2.2.2.2 _ (List.mem_of_getElem? (i := 1) rfl)
  refine lv_aload_n Ex Eb dX7_openCount_0 rfl (lv_at hl 0 rfl) ?_
  refine lo_get E hK hw huRX7 2 hf20 rfl 0 rfl rfl (by decide) (v := .ref (a 0)) rfl dX7_openCount_1 ?_
  have hw : lo_Wd X (([oX7 xo xi n (a 0) xh xs sv xr xt xl xa xc]) ++ ([oX3 (a 0) (a 1) (a 2) (Pn P), arN X (a 1) 6 b, oX0 (a 2) (a 3) (a 4) (a 5) (Px P) (Pk P), arI X (a 3) 20 (Pa P), arI X (a 4) 20 (Pb P), arI X (a 5) 20 (Pd P)] ++ ((lsW b (PL P))))) A9 s9.heap _ _ := hw
  refine lo_callV (q0 := 1) (rest := []) E hK hw (kX3_countRunning l X a b P (hPI)) (cwV 0 E.2.2.2.2 gX7_openCount_X3_countRunning rfl rfl rfl (by decide +kernel) ⟨Nat.le_of_ble_eq_true rfl, Nat.le_of_ble_eq_true rfl⟩) rfl rfl (List.range' 1 12) (lo_ps_tail (pre := [oX7 xo xi n (a 0) xh xs sv xr xt xl xa xc]) rfl rfl) (by decide +kernel) hl.1 rfl rfl (Nat.le_of_ble_eq_true rfl) dX7_openCount_4 ⟨Nat.le_of_ble_eq_true rfl, Nat.le_of_ble_eq_true rfl⟩ (fun v w1 H locs hq hw => ?_)
  obtain ⟨rfl, rfl⟩ := hq
  have hw := lo_cast (lo_sets_tail (n := 12) (k := 1) (pre := [oX7 xo xi n (a 0) xh xs sv xr xt xl xa xc]) (w0 := [oX3 (a 0) (a 1) (a 2) (Pn P), arN X (a 1) 6 b, oX0 (a 2) (a 3) (a 4) (a 5) (Px P) (Pk P), arI X (a 3) 20 (Pa P), arI X (a 4) 20 (Pb P), arI X (a 5) 20 (Pd P)] ++ ((lsW b (PL P)))) (w1 := [oX3 (a 0) (a 1) (a 2) (Pn P), arN X (a 1) 6 b, oX0 (a 2) (a 3) (a 4) (a 5) (Px P) (Pk P), arI X (a 3) 20 (Pa P), arI X (a 4) 20 (Pb P), arI X (a 5) 20 (Pd P)] ++ ((lsW b (PL P)))) rfl rfl rfl) hw
  have hw : lo_Wd X ([oX7 xo xi n (a 0) xh xs sv xr xt xl xa xc, oX3 (a 0) (a 1) (a 2) (Pn P), arN X (a 1) 6 b, oX0 (a 2) (a 3) (a 4) (a 5) (Px P) (Pk P), arI X (a 3) 20 (Pa P), arI X (a 4) 20 (Pb P), arI X (a 5) 20 (Pd P)] ++ ((lsW b (PL P)))) A9 s9.heap H locs := hw
  refine W.eq (g2 := F0 m9 7 ls [.int (iI (cnt (PL P) (Pn P).toNat))]) rfl ?_
  exact lo_iret E hRt hLk hK hAe hw dX7_openCount_7 rfl ⟨rfl, rfl⟩
set_option maxHeartbeats 4000000 in
set_option maxRecDepth 100000 in
theorem kX7_totalDue (l : Launch) (X : KX) (xo xi xh xs xr xt xl xa xc : Nat) (n sv : Int) (a b : Nat → Nat) (P : PT) (hPI : PI P) : CM l X yX7_totalDue wsX7_totalDue ({ frames := 3, cells := 0, slots := 0, locals := 63 }) [.ref xo] ([oX7 xo xi n (a 0) xh xs sv xr xt xl xa xc, oX3 (a 0) (a 1) (a 2) (Pn P), arN X (a 1) 6 b, oX0 (a 2) (a 3) (a 4) (a 5) (Px P) (Pk P), arI X (a 3) 20 (Pa P), arI X (a 4) 20 (Pb P), arI X (a 5) 20 (Pd P)] ++ ((lsW b (PL P)))) (fun v9 w9 => v9 = some (.int (iI (dueS P))) ∧ w9 = [oX7 xo xi n (a 0) xh xs sv xr xt xl xa xc, oX3 (a 0) (a 1) (a 2) (Pn P), arN X (a 1) 6 b, oX0 (a 2) (a 3) (a 4) (a 5) (Px P) (Pk P), arI X (a 3) 20 (Pa P), arI X (a 4) 20 (Pb P), arI X (a 5) 20 (Pd P)] ++ ((lsW b (PL P)))) 0 0 := by
  refine lo_enter (cc := cX7_totalDue) (maxL := 1) (ret := (some .int)) (lv := [(0, .ref xo)]) (by decide) rfl rfl (Nat.le_of_ble_eq_true rfl) ?_
  intro p9 e9 s9 m9 bl9 me9 c9 A9 ls hAe E hRt hLk hK hl hw
  have Ex := E.1
  have Eb := E.2.1
  have huRX7 : ∀ w ∈ u_ws RX7 TX7 11, w ∈ wsX7_totalDue := by decide +kernel
  have hf20 : (Cond.fieldLink RX7 20 "LoanSchedule" "plan" "LLoanSchedule$Plan;").before _ s9 = true := E.2.2.2.2 _ (List.mem_of_getElem? (i := 1) rfl)
  refine lv_aload_n Ex Eb dX7_totalDue_0 rfl (lv_at hl 0 rfl) ?_
  refine lo_get E hK hw huRX7 2 hf20 rfl 0 rfl rfl (by decide) (v := .ref (a 0)) rfl dX7_totalDue_1 ?_
  have hw : lo_Wd X (([oX7 xo xi n (a 0) xh xs sv xr xt xl xa xc]) ++ ([oX3 (a 0) (a 1) (a 2) (Pn P), arN X (a 1) 6 b, oX0 (a 2) (a 3) (a 4) (a 5) (Px P) (Pk P), arI X (a 3) 20 (Pa P), arI X (a 4) 20 (Pb P), arI X (a 5) 20 (Pd P)] ++ ((lsW b (PL P))))) A9 s9.heap _ _ := hw
  refine lo_callV (q0 := 1) (rest := []) E hK hw (kX3_sumOfDues l X a b P (hPI)) (cwV 0 E.2.2.2.2 gX7_totalDue_X3_sumOfDues rfl rfl rfl (by decide +kernel) ⟨Nat.le_of_ble_eq_true rfl, Nat.le_of_ble_eq_true rfl⟩) rfl rfl (List.range' 1 12) (lo_ps_tail (pre := [oX7 xo xi n (a 0) xh xs sv xr xt xl xa xc]) rfl rfl) (by decide +kernel) hl.1 rfl rfl (Nat.le_of_ble_eq_true rfl) dX7_totalDue_4 ⟨Nat.le_of_ble_eq_true rfl, Nat.le_of_ble_eq_true rfl⟩ (fun v w1 H locs hq hw => ?_)
  obtain ⟨rfl, rfl⟩ := hq
  have hw := lo_cast (lo_sets_tail (n := 12) (k := 1) (pre := [oX7 xo xi n (a 0) xh xs sv xr xt xl xa xc]) (w0 := [oX3 (a 0) (a 1) (a 2) (Pn P), arN X (a 1) 6 b, oX0 (a 2) (a 3) (a 4) (a 5) (Px P) (Pk P), arI X (a 3) 20 (Pa P), arI X (a 4) 20 (Pb P), arI X (a 5) 20 (Pd P)] ++ ((lsW b (PL P)))) (w1 := [oX3 (a 0) (a 1) (a 2) (Pn P), arN X (a 1) 6 b, oX0 (a 2) (a 3) (a 4) (a 5) (Px P) (Pk P), arI X (a 3) 20 (Pa P), arI X (a 4) 20 (Pb P), arI X (a 5) 20 (Pd P)] ++ ((lsW b (PL P)))) rfl rfl rfl) hw
  have hw : lo_Wd X ([oX7 xo xi n (a 0) xh xs sv xr xt xl xa xc, oX3 (a 0) (a 1) (a 2) (Pn P), arN X (a 1) 6 b, oX0 (a 2) (a 3) (a 4) (a 5) (Px P) (Pk P), arI X (a 3) 20 (Pa P), arI X (a 4) 20 (Pb P), arI X (a 5) 20 (Pd P)] ++ ((lsW b (PL P)))) A9 s9.heap H locs := hw
  refine W.eq (g2 := F0 m9 7 ls [.int (iI (dueS P))]) rfl ?_
  exact lo_iret E hRt hLk hK hAe hw dX7_totalDue_7 rfl ⟨rfl, rfl⟩
set_option maxHeartbeats 4000000 in
set_option maxRecDepth 100000 in
theorem kX7_totalBalance (l : Launch) (X : KX) (xo xi xh xs xr xt xl xa xc : Nat) (n sv : Int) (a b : Nat → Nat) (P : PT) (hPI : PI P) : CM l X yX7_totalBalance wsX7_totalBalance ({ frames := 1, cells := 0, slots := 0, locals := 22 }) [.ref xo] ([oX7 xo xi n (a 0) xh xs sv xr xt xl xa xc, oX3 (a 0) (a 1) (a 2) (Pn P), arN X (a 1) 6 b, oX0 (a 2) (a 3) (a 4) (a 5) (Px P) (Pk P), arI X (a 3) 20 (Pa P), arI X (a 4) 20 (Pb P), arI X (a 5) 20 (Pd P)] ++ ((lsW b (PL P)))) (fun v9 w9 => v9 = some (.int (iI (sumF (fun i => PL P i 1) (Pn P).toNat))) ∧ w9 = [oX7 xo xi n (a 0) xh xs sv xr xt xl xa xc, oX3 (a 0) (a 1) (a 2) (Pn P), arN X (a 1) 6 b, oX0 (a 2) (a 3) (a 4) (a 5) (Px P) (Pk P), arI X (a 3) 20 (Pa P), arI X (a 4) 20 (Pb P), arI X (a 5) 20 (Pd P)] ++ ((lsW b (PL P)))) 0 0 := by
  refine lo_enter (cc := cX7_totalBalance) (maxL := 1) (ret := (some .int)) (lv := [(0, .ref xo)]) (by decide) rfl rfl (Nat.le_of_ble_eq_true rfl) ?_
  intro p9 e9 s9 m9 bl9 me9 c9 A9 ls hAe E hRt hLk hK hl hw
  have Ex := E.1
  have Eb := E.2.1
  have huRX7 : ∀ w ∈ u_ws RX7 TX7 11, w ∈ wsX7_totalBalance := by decide +kernel
  have hf20 : (Cond.fieldLink RX7 20 "LoanSchedule" "plan" "LLoanSchedule$Plan;").before _ s9 = true := E.2.2.2.2 _ (List.mem_of_getElem? (i := 1) rfl)
  refine lv_aload_n Ex Eb dX7_totalBalance_0 rfl (lv_at hl 0 rfl) ?_
  refine lo_get E hK hw huRX7 2 hf20 rfl 0 rfl rfl (by decide) (v := .ref (a 0)) rfl dX7_totalBalance_1 ?_
  have hw : lo_Wd X (([oX7 xo xi n (a 0) xh xs sv xr xt xl xa xc]) ++ ([oX3 (a 0) (a 1) (a 2) (Pn P), arN X (a 1) 6 b, oX0 (a 2) (a 3) (a 4) (a 5) (Px P) (Pk P), arI X (a 3) 20 (Pa P), arI X (a 4) 20 (Pb P), arI X (a 5) 20 (Pd P)] ++ ((lsW b (PL P))))) A9 s9.heap _ _ := hw
  refine lo_callV (q0 := 1) (rest := []) E hK hw (kX3_sumOfBalances l X a b P (hPI)) (cwV 0 E.2.2.2.2 gX7_totalBalance_X3_sumOfBalances rfl rfl rfl (by decide +kernel) ⟨Nat.le_of_ble_eq_true rfl, Nat.le_of_ble_eq_true rfl⟩) rfl rfl (List.range' 1 12) (lo_ps_tail (pre := [oX7 xo xi n (a 0) xh xs sv xr xt xl xa xc]) rfl rfl) (by decide +kernel) hl.1 rfl rfl (Nat.le_of_ble_eq_true rfl) dX7_totalBalance_4 ⟨Nat.le_of_ble_eq_true rfl, Nat.le_of_ble_eq_true rfl⟩ (fun v w1 H locs hq hw => ?_)
  obtain ⟨rfl, rfl⟩ := hq
  have hw := lo_cast (lo_sets_tail (n := 12) (k := 1) (pre := [oX7 xo xi n (a 0) xh xs sv xr xt xl xa xc]) (w0 := [oX3 (a 0) (a 1) (a 2) (Pn P), arN X (a 1) 6 b, oX0 (a 2) (a 3) (a 4) (a 5) (Px P) (Pk P), arI X (a 3) 20 (Pa P), arI X (a 4) 20 (Pb P), arI X (a 5) 20 (Pd P)] ++ ((lsW b (PL P)))) (w1 := [oX3 (a 0) (a 1) (a 2) (Pn P), arN X (a 1) 6 b, oX0 (a 2) (a 3) (a 4) (a 5) (Px P) (Pk P), arI X (a 3) 20 (Pa P), arI X (a 4) 20 (Pb P), arI X (a 5) 20 (Pd P)] ++ ((lsW b (PL P)))) rfl rfl rfl) hw
  have hw : lo_Wd X ([oX7 xo xi n (a 0) xh xs sv xr xt xl xa xc, oX3 (a 0) (a 1) (a 2) (Pn P), arN X (a 1) 6 b, oX0 (a 2) (a 3) (a 4) (a 5) (Px P) (Pk P), arI X (a 3) 20 (Pa P), arI X (a 4) 20 (Pb P), arI X (a 5) 20 (Pd P)] ++ ((lsW b (PL P)))) A9 s9.heap H locs := hw
  refine W.eq (g2 := F0 m9 7 ls [.int (iI (sumF (fun i => PL P i 1) (Pn P).toNat))]) rfl ?_
  exact lo_iret E hRt hLk hK hAe hw dX7_totalBalance_7 rfl ⟨rfl, rfl⟩
