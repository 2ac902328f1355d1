set_option maxHeartbeats 4000000 in
set_option maxRecDepth 100000 in
theorem kX7_requireRangen (l : Launch) (X : KX) (v lo hi : Int) (hv : i32 v) (hlo : i32 lo) (hhi : i32 hi) (hrr : lo ≤ v ∧ v ≤ hi) : CM l X yX7_requireRange wsX7_requireRange ({ frames := 6, cells := 0, slots := 0, locals := 100 }) [.int (iI v), .int (iI lo), .int (iI hi)] ([]) (fun v9 w9 => (lo ≤ v ∧ v ≤ hi) ∧ v9 = none ∧ w9 = []) 0 0 := by
  refine lo_enter (cc := cX7_requireRange) (maxL := 3) (ret := none) (lv := [(0, .int (iI v)), (1, .int (iI lo)), (2, .int (iI hi))]) (by decide) rfl rfl (Nat.le_of_ble_eq_true rfl) ?_
  intro p9 e9 s9 m9 bl9 me9 c9 A9 ls hAe E hRt hLk hK hl hw
  have Ex := E.1
  have Eb := E.2.1
  refine lv_iload_n Ex Eb dX7_requireRange_0 rfl (lv_at hl 0 rfl) ?_
  refine lv_iload_n Ex Eb dX7_requireRange_1 rfl (lv_at hl 1 rfl) ?_
  refine lo_icmp_lt (tgt := 10) E dX7_requireRange_2 (by decide) (by omega) (by omega) (fun c1 => ?_) (fun c1 => ?_)
  · exact absurd c1 (by omega)
  · skip
    refine lv_iload_n Ex Eb dX7_requireRange_5 rfl (lv_at hl 0 rfl) ?_
    refine lv_iload_n Ex Eb dX7_requireRange_6 rfl (lv_at hl 2 rfl) ?_
    refine lo_icmp_le (tgt := 18) E dX7_requireRange_7 (by decide) (by omega) (by omega) (fun c2 => ?_) (fun c2 => ?_)
    · skip
      exact lo_vret E hRt hLk hK hAe hw dX7_requireRange_18 rfl ⟨(by omega), rfl, rfl⟩
    · exact absurd c2 (by omega)
set_option maxHeartbeats 4000000 in
set_option maxRecDepth 100000 in
theorem kX7_loanAtn (l : Launch) (X : KX) (xo xi xh xs xr xt xl xa xc : Nat) (isz sv : Int) (a b : Nat → Nat) (P : PT) (i : Int) (hPI : PI P) (hi9 : i32 i) (hin : 0 ≤ i ∧ i < Pn P) : CM l X yX7_loanAt wsX7_loanAt ({ frames := 6, cells := 0, slots := 0, locals := 100 }) [.ref xo, .int (iI i)] ([oX7 xo xi isz (a 0) xh xs sv xr xt xl xa xc, oX3 (a 0) (a 1) (a 2) (Pn P), arN X (a 1) 6 b, oX0 (a 2) (a 3) (a 4) (a 5) (Px P) (Pk P), arI X (a 3) 20 (Pa P), arI X (a 4) 20 (Pb P), arI X (a 5) 20 (Pd P)] ++ ((lsW b (PL P)))) (fun v9 w9 => (0 ≤ i ∧ i < Pn P) ∧ v9 = some (.ref (b i.toNat)) ∧ w9 = [oX7 xo xi isz (a 0) xh xs sv xr xt xl xa xc, oX3 (a 0) (a 1) (a 2) (Pn P), arN X (a 1) 6 b, oX0 (a 2) (a 3) (a 4) (a 5) (Px P) (Pk P), arI X (a 3) 20 (Pa P), arI X (a 4) 20 (Pb P), arI X (a 5) 20 (Pd P)] ++ ((lsW b (PL P)))) 0 0 := by
  refine lo_enter (cc := cX7_loanAt) (maxL := 2) (ret := (some (.object "LoanSchedule$Loan"))) (lv := [(0, .ref xo), (1, .int (iI i))]) (by decide) rfl rfl (Nat.le_of_ble_eq_true rfl) ?_
  intro p9 e9 s9 m9 bl9 me9 c9 A9 ls hAe E hRt hLk hK hl hw
  have Ex := E.1
  have Eb := E.2.1
  have huRX7 : ∀ w ∈ u_ws RX7 TX7 11, w ∈ wsX7_loanAt := by decide +kernel
  have hf20 : (Cond.fieldLink RX7 20 "LoanSchedule" "plan" "LLoanSchedule$Plan;").before _ s9 = true := E.2.2.2.2 _ (List.mem_of_getElem? (i := 3) rfl)
  have huRX3 : ∀ w ∈ u_ws RX3 TX3 3, w ∈ wsX7_loanAt := by decide +kernel
  have hf100 : (Cond.fieldLink RX7 100 "LoanSchedule$Plan" "count" "I").before _ s9 = true := E.2.2.2.2 _ (List.mem_of_getElem? (i := 4) rfl)
  have hf260 : (Cond.fieldLink RX7 260 "LoanSchedule$Plan" "loans" "[LLoanSchedule$Loan;").before _ s9 = true := E.2.2.2.2 _ (List.mem_of_getElem? (i := 5) rfl)
  obtain ⟨⟨hn0, hn1⟩, ⟨hx0, hx1⟩, ⟨hk0, hk1⟩, hL⟩ := id hPI
  refine lv_iload_n Ex Eb dX7_loanAt_0 rfl (lv_at hl 1 rfl) ?_
  refine lo_if_lt (tgt := 21) E dX7_loanAt_1 (by decide) (by omega) (fun c1 => ?_) (fun c1 => ?_)
  · exact absurd c1 (by omega)
  · skip
    refine lv_iload_n Ex Eb dX7_loanAt_4 rfl (lv_at hl 1 rfl) ?_
    refine lv_aload_n Ex Eb dX7_loanAt_5 rfl (lv_at hl 0 rfl) ?_
    refine lo_get E hK hw huRX7 2 hf20 rfl 0 rfl rfl (by decide) (v := .ref (a 0)) rfl dX7_loanAt_6 ?_
    refine lo_get E hK hw huRX3 2 hf100 rfl 1 rfl rfl (by decide) (v := .int (iI (Pn P))) rfl dX7_loanAt_9 ?_
    refine lo_icmp_ge (tgt := 21) E dX7_loanAt_12 (by decide) (by omega) (by omega) (fun c2 => ?_) (fun c2 => ?_)
    · exact absurd c2 (by omega)
    · skip
      refine lv_iload_n Ex Eb dX7_loanAt_15 rfl (lv_at hl 1 rfl) ?_
      refine lv_bipush (v := iI 6) Ex Eb dX7_loanAt_16 rfl ?_
      refine lo_icmp_lt (tgt := 29) E dX7_loanAt_18 (by decide) (by omega) (by omega) (fun c3 => ?_) (fun c3 => ?_)
      · skip
        refine lv_aload_n Ex Eb dX7_loanAt_29 rfl (lv_at hl 0 rfl) ?_
        refine lo_get E hK hw huRX7 2 hf20 rfl 0 rfl rfl (by decide) (v := .ref (a 0)) rfl dX7_loanAt_30 ?_
        refine lo_get E hK hw huRX3 0 hf260 rfl 1 rfl rfl (by decide) (v := .ref (a 1)) rfl dX7_loanAt_33 ?_
        refine lv_iload_n Ex Eb dX7_loanAt_36 rfl (lv_at hl 1 rfl) ?_
        refine lo_aldN E hK hw 2 rfl (by omega) dX7_loanAt_37 ?_
        exact lo_aret E hRt (Or.inl ⟨_, rfl⟩) hLk hK hAe hw dX7_loanAt_38 rfl ⟨(by omega), rfl, rfl⟩
      · exact absurd c3 (by omega)
set_option maxHeartbeats 4000000 in
set_option maxRecDepth 100000 in
theorem kX7_principaln (l : Launch) (X : KX) (xo xi xh xs xr xt xl xa xc : Nat) (isz sv : Int) (a b : Nat → Nat) (P : PT) (i : Int) (hPI : PI P) (hi9 : i32 i) (hin : 0 ≤ i ∧ i < Pn P) : CM l X yX7_principal wsX7_principal ({ frames := 7, cells := 0, slots := 0, locals := 121 }) [.ref xo, .int (iI i)] ([oX7 xo xi isz (a 0) xh xs sv xr xt xl xa xc, oX3 (a 0) (a 1) (a 2) (Pn P), arN X (a 1) 6 b, oX0 (a 2) (a 3) (a 4) (a 5) (Px P) (Pk P), arI X (a 3) 20 (Pa P), arI X (a 4) 20 (Pb P), arI X (a 5) 20 (Pd P)] ++ ((lsW b (PL P)))) (fun v9 w9 => (0 ≤ i ∧ i < Pn P) ∧ v9 = some (.int (iI (PL P i.toNat 0))) ∧ w9 = [oX7 xo xi isz (a 0) xh xs sv xr xt xl xa xc, oX3 (a 0) (a 1) (a 2) (Pn P), arN X (a 1) 6 b, oX0 (a 2) (a 3) (a 4) (a 5) (Px P) (Pk P), arI X (a 3) 20 (Pa P), arI X (a 4) 20 (Pb P), arI X (a 5) 20 (Pd P)] ++ ((lsW b (PL P)))) 0 0 := by
  refine lo_enter (cc := cX7_principal) (maxL := 2) (ret := (some .int)) (lv := [(0, .ref xo), (1, .int (iI i))]) (by decide) rfl rfl (Nat.le_of_ble_eq_true rfl) ?_
  intro p9 e9 s9 m9 bl9 me9 c9 A9 ls hAe E hRt hLk hK hl hw
  have Ex := E.1
  have Eb := E.2.1
  have huRX2 : ∀ w ∈ u_ws RX2 TX2 10, w ∈ wsX7_principal := by decide +kernel
  have hf182 : (Cond.fieldLink RX7 182 "LoanSchedule$Loan" "principal" "I").before _ s9 = true := E.2.2.2.2 _ (List.mem_of_getElem? (i := 1) rfl)
  obtain ⟨⟨hn0, hn1⟩, ⟨hx0, hx1⟩, ⟨hk0, hk1⟩, hL⟩ := id hPI
  refine lv_aload_n Ex Eb dX7_principal_0 rfl (lv_at hl 0 rfl) ?_
  refine lv_iload_n Ex Eb dX7_principal_1 rfl (lv_at hl 1 rfl) ?_
  have hw : lo_Wd X (([]) ++ ([oX7 xo xi isz (a 0) xh xs sv xr xt xl xa xc, oX3 (a 0) (a 1) (a 2) (Pn P), arN X (a 1) 6 b, oX0 (a 2) (a 3) (a 4) (a 5) (Px P) (Pk P), arI X (a 3) 20 (Pa P), arI X (a 4) 20 (Pb P), arI X (a 5) 20 (Pd P)] ++ ((lsW b (PL P))))) A9 s9.heap _ _ := hw
  refine lo_callV (q0 := 0) (rest := []) E hK hw (kX7_loanAtn l X xo xi xh xs xr xt xl xa xc isz sv a b P i (by omega) (by omega) (by omega)) (cwV 1 E.2.2.2.2 gX7_principal_X7_loanAt rfl rfl rfl (by decide +kernel) ⟨Nat.le_of_ble_eq_true rfl, Nat.le_of_ble_eq_true rfl⟩) rfl rfl (List.range' 0 13) (lo_ps_tail (pre := []) rfl rfl) (by decide +kernel) hl.1 rfl rfl (Nat.le_of_ble_eq_true rfl) dX7_principal_2 ⟨Nat.le_of_ble_eq_true rfl, Nat.le_of_ble_eq_true rfl⟩ (fun v w1 H locs hq hw => ?_)
  obtain ⟨q2_0, rfl, rfl⟩ := hq
  have hw := lo_cast (lo_sets_tail (n := 13) (k := 0) (pre := []) (w0 := [oX7 xo xi isz (a 0) xh xs sv xr xt xl xa xc, oX3 (a 0) (a 1) (a 2) (Pn P), arN X (a 1) 6 b, oX0 (a 2) (a 3) (a 4) (a 5) (Px P) (Pk P), arI X (a 3) 20 (Pa P), arI X (a 4) 20 (Pb P), arI X (a 5) 20 (Pd P)] ++ ((lsW b (PL P)))) (w1 := [oX7 xo xi isz (a 0) xh xs sv xr xt xl xa xc, oX3 (a 0) (a 1) (a 2) (Pn P), arN X (a 1) 6 b, oX0 (a 2) (a 3) (a 4) (a 5) (Px P) (Pk P), arI X (a 3) 20 (Pa P), arI X (a 4) 20 (Pb P), arI X (a 5) 20 (Pd P)] ++ ((lsW b (PL P)))) rfl rfl rfl) hw
  have hw : lo_Wd X ([oX7 xo xi isz (a 0) xh xs sv xr xt xl xa xc, oX3 (a 0) (a 1) (a 2) (Pn P), arN X (a 1) 6 b, oX0 (a 2) (a 3) (a 4) (a 5) (Px P) (Pk P), arI X (a 3) 20 (Pa P), arI X (a 4) 20 (Pb P), arI X (a 5) 20 (Pd P)] ++ ((lsW b (PL P)))) A9 s9.heap H locs := hw
  refine W.eq (g2 := F0 m9 5 ls [.ref (b i.toNat)]) rfl ?_
  refine lo_get E hK hw huRX2 0 hf182 rfl (7 + i.toNat) (lsW_atE (k := 7) rfl (by omega)) rfl (by decide) (v := .int (iI (PL P i.toNat 0))) rfl dX7_principal_5 ?_
  exact lo_iret E hRt hLk hK hAe hw dX7_principal_8 rfl ⟨(by omega), rfl, rfl⟩
set_option maxHeartbeats 4000000 in
set_option maxRecDepth 100000 in
theorem kX7_balancen (l : Launch) (X : KX) (xo xi xh xs xr xt xl xa xc : Nat) (isz sv : Int) (a b : Nat → Nat) (P : PT) (i : Int) (hPI : PI P) (hi9 : i32 i) (hin : 0 ≤ i ∧ i < Pn P) : CM l X yX7_balance wsX7_balance ({ frames := 7, cells := 0, slots := 0, locals := 121 }) [.ref xo, .int (iI i)] ([oX7 xo xi isz (a 0) xh xs sv xr xt xl xa xc, oX3 (a 0) (a 1) (a 2) (Pn P), arN X (a 1) 6 b, oX0 (a 2) (a 3) (a 4) (a 5) (Px P) (Pk P), arI X (a 3) 20 (Pa P), arI X (a 4) 20 (Pb P), arI X (a 5) 20 (Pd P)] ++ ((lsW b (PL P)))) (fun v9 w9 => (0 ≤ i ∧ i < Pn P) ∧ v9 = some (.int (iI (PL P i.toNat 1))) ∧ w9 = [oX7 xo xi isz (a 0) xh xs sv xr xt xl xa xc, oX3 (a 0) (a 1) (a 2) (Pn P), arN X (a 1) 6 b, oX0 (a 2) (a 3) (a 4) (a 5) (Px P) (Pk P), arI X (a 3) 20 (Pa P), arI X (a 4) 20 (Pb P), arI X (a 5) 20 (Pd P)] ++ ((lsW b (PL P)))) 0 0 := by
  refine lo_enter (cc := cX7_balance) (maxL := 2) (ret := (some .int)) (lv := [(0, .ref xo), (1, .int (iI i))]) (by decide) rfl rfl (Nat.le_of_ble_eq_true rfl) ?_
  intro p9 e9 s9 m9 bl9 me9 c9 A9 ls hAe E hRt hLk hK hl hw
  have Ex := E.1
  have Eb := E.2.1
  have huRX2 : ∀ w ∈ u_ws RX2 TX2 10, w ∈ wsX7_balance := by decide +kernel
  have hf137 : (Cond.fieldLink RX7 137 "LoanSchedule$Loan" "balance" "I").before _ s9 = true := E.2.2.2.2 _ (List.mem_of_getElem? (i := 1) rfl)
  obtain ⟨⟨hn0, hn1⟩, ⟨hx0, hx1⟩, ⟨hk0, hk1⟩, hL⟩ := id hPI
  refine lv_aload_n Ex Eb dX7_balance_0 rfl (lv_at hl 0 rfl) ?_
  refine lv_iload_n Ex Eb dX7_balance_1 rfl (lv_at hl 1 rfl) ?_
  have hw : lo_Wd X (([]) ++ ([oX7 xo xi isz (a 0) xh xs sv xr xt xl xa xc, oX3 (a 0) (a 1) (a 2) (Pn P), arN X (a 1) 6 b, oX0 (a 2) (a 3) (a 4) (a 5) (Px P) (Pk P), arI X (a 3) 20 (Pa P), arI X (a 4) 20 (Pb P), arI X (a 5) 20 (Pd P)] ++ ((lsW b (PL P))))) A9 s9.heap _ _ := hw
  refine lo_callV (q0 := 0) (rest := []) E hK hw (kX7_loanAtn l X xo xi xh xs xr xt xl xa xc isz sv a b P i (by omega) (by omega) (by omega)) (cwV 1 E.2.2.2.2 gX7_balance_X7_loanAt rfl rfl rfl (by decide +kernel) ⟨Nat.le_of_ble_eq_true rfl, Nat.le_of_ble_eq_true rfl⟩) rfl rfl (List.range' 0 13) (lo_ps_tail (pre := []) rfl rfl) (by decide +kernel) hl.1 rfl rfl (Nat.le_of_ble_eq_true rfl) dX7_balance_2 ⟨Nat.le_of_ble_eq_true rfl, Nat.le_of_ble_eq_true rfl⟩ (fun v w1 H locs hq hw => ?_)
  obtain ⟨q2_0, rfl, rfl⟩ := hq
  have hw := lo_cast (lo_sets_tail (n := 13) (k := 0) (pre := []) (w0 := [oX7 xo xi isz (a 0) xh xs sv xr xt xl xa xc, oX3 (a 0) (a 1) (a 2) (Pn P), arN X (a 1) 6 b, oX0 (a 2) (a 3) (a 4) (a 5) (Px P) (Pk P), arI X (a 3) 20 (Pa P), arI X (a 4) 20 (Pb P), arI X (a 5) 20 (Pd P)] ++ ((lsW b (PL P)))) (w1 := [oX7 xo xi isz (a 0) xh xs sv xr xt xl xa xc, oX3 (a 0) (a 1) (a 2) (Pn P), arN X (a 1) 6 b, oX0 (a 2) (a 3) (a 4) (a 5) (Px P) (Pk P), arI X (a 3) 20 (Pa P), arI X (a 4) 20 (Pb P), arI X (a 5) 20 (Pd P)] ++ ((lsW b (PL P)))) rfl rfl rfl) hw
  have hw : lo_Wd X ([oX7 xo xi isz (a 0) xh xs sv xr xt xl xa xc, oX3 (a 0) (a 1) (a 2) (Pn P), arN X (a 1) 6 b, oX0 (a 2) (a 3) (a 4) (a 5) (Px P) (Pk P), arI X (a 3) 20 (Pa P), arI X (a 4) 20 (Pb P), arI X (a 5) 20 (Pd P)] ++ ((lsW b (PL P)))) A9 s9.heap H locs := hw
  refine W.eq (g2 := F0 m9 5 ls [.ref (b i.toNat)]) rfl ?_
  refine lo_get E hK hw huRX2 1 hf137 rfl (7 + i.toNat) (lsW_atE (k := 7) rfl (by omega)) rfl (by decide) (v := .int (iI (PL P i.toNat 1))) rfl dX7_balance_5 ?_
  exact lo_iret E hRt hLk hK hAe hw dX7_balance_8 rfl ⟨(by omega), rfl, rfl⟩
set_option maxHeartbeats 4000000 in
set_option maxRecDepth 100000 in
theorem kX7_raten (l : Launch) (X : KX) (xo xi xh xs xr xt xl xa xc : Nat) (isz sv : Int) (a b : Nat → Nat) (P : PT) (i : Int) (hPI : PI P) (hi9 : i32 i) (hin : 0 ≤ i ∧ i < Pn P) : CM l X yX7_rate wsX7_rate ({ frames := 7, cells := 0, slots := 0, locals := 121 }) [.ref xo, .int (iI i)] ([oX7 xo xi isz (a 0) xh xs sv xr xt xl xa xc, oX3 (a 0) (a 1) (a 2) (Pn P), arN X (a 1) 6 b, oX0 (a 2) (a 3) (a 4) (a 5) (Px P) (Pk P), arI X (a 3) 20 (Pa P), arI X (a 4) 20 (Pb P), arI X (a 5) 20 (Pd P)] ++ ((lsW b (PL P)))) (fun v9 w9 => (0 ≤ i ∧ i < Pn P) ∧ v9 = some (.int (iI (PL P i.toNat 2))) ∧ w9 = [oX7 xo xi isz (a 0) xh xs sv xr xt xl xa xc, oX3 (a 0) (a 1) (a 2) (Pn P), arN X (a 1) 6 b, oX0 (a 2) (a 3) (a 4) (a 5) (Px P) (Pk P), arI X (a 3) 20 (Pa P), arI X (a 4) 20 (Pb P), arI X (a 5) 20 (Pd P)] ++ ((lsW b (PL P)))) 0 0 := by
  refine lo_enter (cc := cX7_rate) (maxL := 2) (ret := (some .int)) (lv := [(0, .ref xo), (1, .int (iI i))]) (by decide) rfl rfl (Nat.le_of_ble_eq_true rfl) ?_
  intro p9 e9 s9 m9 bl9 me9 c9 A9 ls hAe E hRt hLk hK hl hw
  have Ex := E.1
  have Eb := E.2.1
  have huRX2 : ∀ w ∈ u_ws RX2 TX2 10, w ∈ wsX7_rate := by decide +kernel
  have hf156 : (Cond.fieldLink RX7 156 "LoanSchedule$Loan" "rate" "I").before _ s9 = true := E.2.2.2.2 _ (List.mem_of_getElem? (i := 1) rfl)
  obtain ⟨⟨hn0, hn1⟩, ⟨hx0, hx1⟩, ⟨hk0, hk1⟩, hL⟩ := id hPI
  refine lv_aload_n Ex Eb dX7_rate_0 rfl (lv_at hl 0 rfl) ?_
  refine lv_iload_n Ex Eb dX7_rate_1 rfl (lv_at hl 1 rfl) ?_
  have hw : lo_Wd X (([]) ++ ([oX7 xo xi isz (a 0) xh xs sv xr xt xl xa xc, oX3 (a 0) (a 1) (a 2) (Pn P), arN X (a 1) 6 b, oX0 (a 2) (a 3) (a 4) (a 5) (Px P) (Pk P), arI X (a 3) 20 (Pa P), arI X (a 4) 20 (Pb P), arI X (a 5) 20 (Pd P)] ++ ((lsW b (PL P))))) A9 s9.heap _ _ := hw
  refine lo_callV (q0 := 0) (rest := []) E hK hw (kX7_loanAtn l X xo xi xh xs xr xt xl xa xc isz sv a b P i (by omega) (by omega) (by omega)) (cwV 1 E.2.2.2.2 gX7_rate_X7_loanAt rfl rfl rfl (by decide +kernel) ⟨Nat.le_of_ble_eq_true rfl, Nat.le_of_ble_eq_true rfl⟩) rfl rfl (List.range' 0 13) (lo_ps_tail (pre := []) rfl rfl) (by decide +kernel) hl.1 rfl rfl (Nat.le_of_ble_eq_true rfl) dX7_rate_2 ⟨Nat.le_of_ble_eq_true rfl, Nat.le_of_ble_eq_true rfl⟩ (fun v w1 H locs hq hw => ?_)
  obtain ⟨q2_0, rfl, rfl⟩ := hq
  have hw := lo_cast (lo_sets_tail (n := 13) (k := 0) (pre := []) (w0 := [oX7 xo xi isz (a 0) xh xs sv xr xt xl xa xc, oX3 (a 0) (a 1) (a 2) (Pn P), arN X (a 1) 6 b, oX0 (a 2) (a 3) (a 4) (a 5) (Px P) (Pk P), arI X (a 3) 20 (Pa P), arI X (a 4) 20 (Pb P), arI X (a 5) 20 (Pd P)] ++ ((lsW b (PL P)))) (w1 := [oX7 xo xi isz (a 0) xh xs sv xr xt xl xa xc, oX3 (a 0) (a 1) (a 2) (Pn P), arN X (a 1) 6 b, oX0 (a 2) (a 3) (a 4) (a 5) (Px P) (Pk P), arI X (a 3) 20 (Pa P), arI X (a 4) 20 (Pb P), arI X (a 5) 20 (Pd P)] ++ ((lsW b (PL P)))) rfl rfl rfl) hw
  have hw : lo_Wd X ([oX7 xo xi isz (a 0) xh xs sv xr xt xl xa xc, oX3 (a 0) (a 1) (a 2) (Pn P), arN X (a 1) 6 b, oX0 (a 2) (a 3) (a 4) (a 5) (Px P) (Pk P), arI X (a 3) 20 (Pa P), arI X (a 4) 20 (Pb P), arI X (a 5) 20 (Pd P)] ++ ((lsW b (PL P)))) A9 s9.heap H locs := hw
  refine W.eq (g2 := F0 m9 5 ls [.ref (b i.toNat)]) rfl ?_
  refine lo_get E hK hw huRX2 2 hf156 rfl (7 + i.toNat) (lsW_atE (k := 7) rfl (by omega)) rfl (by decide) (v := .int (iI (PL P i.toNat 2))) rfl dX7_rate_5 ?_
  exact lo_iret E hRt hLk hK hAe hw dX7_rate_8 rfl ⟨(by omega), rfl, rfl⟩
set_option maxHeartbeats 4000000 in
set_option maxRecDepth 100000 in
theorem kX7_monthsLeftn (l : Launch) (X : KX) (xo xi xh xs xr xt xl xa xc : Nat) (isz sv : Int) (a b : Nat → Nat) (P : PT) (i : Int) (hPI : PI P) (hi9 : i32 i) (hin : 0 ≤ i ∧ i < Pn P) : CM l X yX7_monthsLeft wsX7_monthsLeft ({ frames := 7, cells := 0, slots := 0, locals := 121 }) [.ref xo, .int (iI i)] ([oX7 xo xi isz (a 0) xh xs sv xr xt xl xa xc, oX3 (a 0) (a 1) (a 2) (Pn P), arN X (a 1) 6 b, oX0 (a 2) (a 3) (a 4) (a 5) (Px P) (Pk P), arI X (a 3) 20 (Pa P), arI X (a 4) 20 (Pb P), arI X (a 5) 20 (Pd P)] ++ ((lsW b (PL P)))) (fun v9 w9 => (0 ≤ i ∧ i < Pn P) ∧ v9 = some (.int (iI (PL P i.toNat 3))) ∧ w9 = [oX7 xo xi isz (a 0) xh xs sv xr xt xl xa xc, oX3 (a 0) (a 1) (a 2) (Pn P), arN X (a 1) 6 b, oX0 (a 2) (a 3) (a 4) (a 5) (Px P) (Pk P), arI X (a 3) 20 (Pa P), arI X (a 4) 20 (Pb P), arI X (a 5) 20 (Pd P)] ++ ((lsW b (PL P)))) 0 0 := by
  refine lo_enter (cc := cX7_monthsLeft) (maxL := 2) (ret := (some .int)) (lv := [(0, .ref xo), (1, .int (iI i))]) (by decide) rfl rfl (Nat.le_of_ble_eq_true rfl) ?_
  intro p9 e9 s9 m9 bl9 me9 c9 A9 ls hAe E hRt hLk hK hl hw
  have Ex := E.1
  have Eb := E.2.1
  have huRX2 : ∀ w ∈ u_ws RX2 TX2 10, w ∈ wsX7_monthsLeft := by decide +kernel
  have hf146 : (Cond.fieldLink RX7 146 "LoanSchedule$Loan" "monthsLeft" "I").before _ s9 = true := E.2.2.2.2 _ (List.mem_of_getElem? (i := 1) rfl)
  obtain ⟨⟨hn0, hn1⟩, ⟨hx0, hx1⟩, ⟨hk0, hk1⟩, hL⟩ := id hPI
  refine lv_aload_n Ex Eb dX7_monthsLeft_0 rfl (lv_at hl 0 rfl) ?_
  refine lv_iload_n Ex Eb dX7_monthsLeft_1 rfl (lv_at hl 1 rfl) ?_
  have hw : lo_Wd X (([]) ++ ([oX7 xo xi isz (a 0) xh xs sv xr xt xl xa xc, oX3 (a 0) (a 1) (a 2) (Pn P), arN X (a 1) 6 b, oX0 (a 2) (a 3) (a 4) (a 5) (Px P) (Pk P), arI X (a 3) 20 (Pa P), arI X (a 4) 20 (Pb P), arI X (a 5) 20 (Pd P)] ++ ((lsW b (PL P))))) A9 s9.heap _ _ := hw
  refine lo_callV (q0 := 0) (rest := []) E hK hw (kX7_loanAtn l X xo xi xh xs xr xt xl xa xc isz sv a b P i (by omega) (by omega) (by omega)) (cwV 1 E.2.2.2.2 gX7_monthsLeft_X7_loanAt rfl rfl rfl (by decide +kernel) ⟨Nat.le_of_ble_eq_true rfl, Nat.le_of_ble_eq_true rfl⟩) rfl rfl (List.range' 0 13) (lo_ps_tail (pre := []) rfl rfl) (by decide +kernel) hl.1 rfl rfl (Nat.le_of_ble_eq_true rfl) dX7_monthsLeft_2 ⟨Nat.le_of_ble_eq_true rfl, Nat.le_of_ble_eq_true rfl⟩ (fun v w1 H locs hq hw => ?_)
  obtain ⟨q2_0, rfl, rfl⟩ := hq
  have hw := lo_cast (lo_sets_tail (n := 13) (k := 0) (pre := []) (w0 := [oX7 xo xi isz (a 0) xh xs sv xr xt xl xa xc, oX3 (a 0) (a 1) (a 2) (Pn P), arN X (a 1) 6 b, oX0 (a 2) (a 3) (a 4) (a 5) (Px P) (Pk P), arI X (a 3) 20 (Pa P), arI X (a 4) 20 (Pb P), arI X (a 5) 20 (Pd P)] ++ ((lsW b (PL P)))) (w1 := [oX7 xo xi isz (a 0) xh xs sv xr xt xl xa xc, oX3 (a 0) (a 1) (a 2) (Pn P), arN X (a 1) 6 b, oX0 (a 2) (a 3) (a 4) (a 5) (Px P) (Pk P), arI X (a 3) 20 (Pa P), arI X (a 4) 20 (Pb P), arI X (a 5) 20 (Pd P)] ++ ((lsW b (PL P)))) rfl rfl rfl) hw
  have hw : lo_Wd X ([oX7 xo xi isz (a 0) xh xs sv xr xt xl xa xc, oX3 (a 0) (a 1) (a 2) (Pn P), arN X (a 1) 6 b, oX0 (a 2) (a 3) (a 4) (a 5) (Px P) (Pk P), arI X (a 3) 20 (Pa P), arI X (a 4) 20 (Pb P), arI X (a 5) 20 (Pd P)] ++ ((lsW b (PL P)))) A9 s9.heap H locs := hw
  refine W.eq (g2 := F0 m9 5 ls [.ref (b i.toNat)]) rfl ?_
  refine lo_get E hK hw huRX2 3 hf146 rfl (7 + i.toNat) (lsW_atE (k := 7) rfl (by omega)) rfl (by decide) (v := .int (iI (PL P i.toNat 3))) rfl dX7_monthsLeft_5 ?_
  exact lo_iret E hRt hLk hK hAe hw dX7_monthsLeft_8 rfl ⟨(by omega), rfl, rfl⟩
set_option maxHeartbeats 4000000 in
set_option maxRecDepth 100000 in
theorem kX7_installmentn (l : Launch) (X : KX) (xo xi xh xs xr xt xl xa xc : Nat) (isz sv : Int) (a b : Nat → Nat) (P : PT) (i : Int) (hPI : PI P) (hi9 : i32 i) (hin : 0 ≤ i ∧ i < Pn P) : CM l X yX7_installment wsX7_installment ({ frames := 7, cells := 0, slots := 0, locals := 121 }) [.ref xo, .int (iI i)] ([oX7 xo xi isz (a 0) xh xs sv xr xt xl xa xc, oX3 (a 0) (a 1) (a 2) (Pn P), arN X (a 1) 6 b, oX0 (a 2) (a 3) (a 4) (a 5) (Px P) (Pk P), arI X (a 3) 20 (Pa P), arI X (a 4) 20 (Pb P), arI X (a 5) 20 (Pd P)] ++ ((lsW b (PL P)))) (fun v9 w9 => (0 ≤ i ∧ i < Pn P) ∧ v9 = some (.int (iI (PL P i.toNat 4))) ∧ w9 = [oX7 xo xi isz (a 0) xh xs sv xr xt xl xa xc, oX3 (a 0) (a 1) (a 2) (Pn P), arN X (a 1) 6 b, oX0 (a 2) (a 3) (a 4) (a 5) (Px P) (Pk P), arI X (a 3) 20 (Pa P), arI X (a 4) 20 (Pb P), arI X (a 5) 20 (Pd P)] ++ ((lsW b (PL P)))) 0 0 := by
  refine lo_enter (cc := cX7_installment) (maxL := 2) (ret := (some .int)) (lv := [(0, .ref xo), (1, .int (iI i))]) (by decide) rfl rfl (Nat.le_of_ble_eq_true rfl) ?_
  intro p9 e9 s9 m9 bl9 me9 c9 A9 ls hAe E hRt hLk hK hl hw
  have Ex := E.1
  have Eb := E.2.1
  have huRX2 : ∀ w ∈ u_ws RX2 TX2 10, w ∈ wsX7_installment := by decide +kernel
  have hf185 : (Cond.fieldLink RX7 185 "LoanSchedule$Loan" "installment" "I").before _ s9 = true := E.2.2.2.2 _ (List.mem_of_getElem? (i := 1) rfl)
  obtain ⟨⟨hn0, hn1⟩, ⟨hx0, hx1⟩, ⟨hk0, hk1⟩, hL⟩ := id hPI
  refine lv_aload_n Ex Eb dX7_installment_0 rfl (lv_at hl 0 rfl) ?_
  refine lv_iload_n Ex Eb dX7_installment_1 rfl (lv_at hl 1 rfl) ?_
  have hw : lo_Wd X (([]) ++ ([oX7 xo xi isz (a 0) xh xs sv xr xt xl xa xc, oX3 (a 0) (a 1) (a 2) (Pn P), arN X (a 1) 6 b, oX0 (a 2) (a 3) (a 4) (a 5) (Px P) (Pk P), arI X (a 3) 20 (Pa P), arI X (a 4) 20 (Pb P), arI X (a 5) 20 (Pd P)] ++ ((lsW b (PL P))))) A9 s9.heap _ _ := hw
  refine lo_callV (q0 := 0) (rest := []) E hK hw (kX7_loanAtn l X xo xi xh xs xr xt xl xa xc isz sv a b P i (by omega) (by omega) (by omega)) (cwV 1 E.2.2.2.2 gX7_installment_X7_loanAt rfl rfl rfl (by decide +kernel) ⟨Nat.le_of_ble_eq_true rfl, Nat.le_of_ble_eq_true rfl⟩) rfl rfl (List.range' 0 13) (lo_ps_tail (pre := []) rfl rfl) (by decide +kernel) hl.1 rfl rfl (Nat.le_of_ble_eq_true rfl) dX7_installment_2 ⟨Nat.le_of_ble_eq_true rfl, Nat.le_of_ble_eq_true rfl⟩ (fun v w1 H locs hq hw => ?_)
  obtain ⟨q2_0, rfl, rfl⟩ := hq
  have hw := lo_cast (lo_sets_tail (n := 13) (k := 0) (pre := []) (w0 := [oX7 xo xi isz (a 0) xh xs sv xr xt xl xa xc, oX3 (a 0) (a 1) (a 2) (Pn P), arN X (a 1) 6 b, oX0 (a 2) (a 3) (a 4) (a 5) (Px P) (Pk P), arI X (a 3) 20 (Pa P), arI X (a 4) 20 (Pb P), arI X (a 5) 20 (Pd P)] ++ ((lsW b (PL P)))) (w1 := [oX7 xo xi isz (a 0) xh xs sv xr xt xl xa xc, oX3 (a 0) (a 1) (a 2) (Pn P), arN X (a 1) 6 b, oX0 (a 2) (a 3) (a 4) (a 5) (Px P) (Pk P), arI X (a 3) 20 (Pa P), arI X (a 4) 20 (Pb P), arI X (a 5) 20 (Pd P)] ++ ((lsW b (PL P)))) rfl rfl rfl) hw
  have hw : lo_Wd X ([oX7 xo xi isz (a 0) xh xs sv xr xt xl xa xc, oX3 (a 0) (a 1) (a 2) (Pn P), arN X (a 1) 6 b, oX0 (a 2) (a 3) (a 4) (a 5) (Px P) (Pk P), arI X (a 3) 20 (Pa P), arI X (a 4) 20 (Pb P), arI X (a 5) 20 (Pd P)] ++ ((lsW b (PL P)))) A9 s9.heap H locs := hw
  refine W.eq (g2 := F0 m9 5 ls [.ref (b i.toNat)]) rfl ?_
  refine lo_get E hK hw huRX2 4 hf185 rfl (7 + i.toNat) (lsW_atE (k := 7) rfl (by omega)) rfl (by decide) (v := .int (iI (PL P i.toNat 4))) rfl dX7_installment_5 ?_
  exact lo_iret E hRt hLk hK hAe hw dX7_installment_8 rfl ⟨(by omega), rfl, rfl⟩
set_option maxHeartbeats 4000000 in
set_option maxRecDepth 100000 in
theorem kX7_carryn (l : Launch) (X : KX) (xo xi xh xs xr xt xl xa xc : Nat) (isz sv : Int) (a b : Nat → Nat) (P : PT) (i : Int) (hPI : PI P) (hi9 : i32 i) (hin : 0 ≤ i ∧ i < Pn P) : CM l X yX7_carry wsX7_carry ({ frames := 7, cells := 0, slots := 0, locals := 121 }) [.ref xo, .int (iI i)] ([oX7 xo xi isz (a 0) xh xs sv xr xt xl xa xc, oX3 (a 0) (a 1) (a 2) (Pn P), arN X (a 1) 6 b, oX0 (a 2) (a 3) (a 4) (a 5) (Px P) (Pk P), arI X (a 3) 20 (Pa P), arI X (a 4) 20 (Pb P), arI X (a 5) 20 (Pd P)] ++ ((lsW b (PL P)))) (fun v9 w9 => (0 ≤ i ∧ i < Pn P) ∧ v9 = some (.int (iI (PL P i.toNat 5))) ∧ w9 = [oX7 xo xi isz (a 0) xh xs sv xr xt xl xa xc, oX3 (a 0) (a 1) (a 2) (Pn P), arN X (a 1) 6 b, oX0 (a 2) (a 3) (a 4) (a 5) (Px P) (Pk P), arI X (a 3) 20 (Pa P), arI X (a 4) 20 (Pb P), arI X (a 5) 20 (Pd P)] ++ ((lsW b (PL P)))) 0 0 := by
  refine lo_enter (cc := cX7_carry) (maxL := 2) (ret := (some .int)) (lv := [(0, .ref xo), (1, .int (iI i))]) (by decide) rfl rfl (Nat.le_of_ble_eq_true rfl) ?_
  intro p9 e9 s9 m9 bl9 me9 c9 A9 ls hAe E hRt hLk hK hl hw
  have Ex := E.1
  have Eb := E.2.1
  have huRX2 : ∀ w ∈ u_ws RX2 TX2 10, w ∈ wsX7_carry := by decide +kernel
  have hf188 : (Cond.fieldLink RX7 188 "LoanSchedule$Loan" "carry" "I").before _ s9 = true := E.2.2.2.2 _ (List.mem_of_getElem? (i := 1) rfl)
  obtain ⟨⟨hn0, hn1⟩, ⟨hx0, hx1⟩, ⟨hk0, hk1⟩, hL⟩ := id hPI
  refine lv_aload_n Ex Eb dX7_carry_0 rfl (lv_at hl 0 rfl) ?_
  refine lv_iload_n Ex Eb dX7_carry_1 rfl (lv_at hl 1 rfl) ?_
  have hw : lo_Wd X (([]) ++ ([oX7 xo xi isz (a 0) xh xs sv xr xt xl xa xc, oX3 (a 0) (a 1) (a 2) (Pn P), arN X (a 1) 6 b, oX0 (a 2) (a 3) (a 4) (a 5) (Px P) (Pk P), arI X (a 3) 20 (Pa P), arI X (a 4) 20 (Pb P), arI X (a 5) 20 (Pd P)] ++ ((lsW b (PL P))))) A9 s9.heap _ _ := hw
  refine lo_callV (q0 := 0) (rest := []) E hK hw (kX7_loanAtn l X xo xi xh xs xr xt xl xa xc isz sv a b P i (by omega) (by omega) (by omega)) (cwV 1 E.2.2.2.2 gX7_carry_X7_loanAt rfl rfl rfl (by decide +kernel) ⟨Nat.le_of_ble_eq_true rfl, Nat.le_of_ble_eq_true rfl⟩) rfl rfl (List.range' 0 13) (lo_ps_tail (pre := []) rfl rfl) (by decide +kernel) hl.1 rfl rfl (Nat.le_of_ble_eq_true rfl) dX7_carry_2 ⟨Nat.le_of_ble_eq_true rfl, Nat.le_of_ble_eq_true rfl⟩ (fun v w1 H locs hq hw => ?_)
  obtain ⟨q2_0, rfl, rfl⟩ := hq
  have hw := lo_cast (lo_sets_tail (n := 13) (k := 0) (pre := []) (w0 := [oX7 xo xi isz (a 0) xh xs sv xr xt xl xa xc, oX3 (a 0) (a 1) (a 2) (Pn P), arN X (a 1) 6 b, oX0 (a 2) (a 3) (a 4) (a 5) (Px P) (Pk P), arI X (a 3) 20 (Pa P), arI X (a 4) 20 (Pb P), arI X (a 5) 20 (Pd P)] ++ ((lsW b (PL P)))) (w1 := [oX7 xo xi isz (a 0) xh xs sv xr xt xl xa xc, oX3 (a 0) (a 1) (a 2) (Pn P), arN X (a 1) 6 b, oX0 (a 2) (a 3) (a 4) (a 5) (Px P) (Pk P), arI X (a 3) 20 (Pa P), arI X (a 4) 20 (Pb P), arI X (a 5) 20 (Pd P)] ++ ((lsW b (PL P)))) rfl rfl rfl) hw
  have hw : lo_Wd X ([oX7 xo xi isz (a 0) xh xs sv xr xt xl xa xc, oX3 (a 0) (a 1) (a 2) (Pn P), arN X (a 1) 6 b, oX0 (a 2) (a 3) (a 4) (a 5) (Px P) (Pk P), arI X (a 3) 20 (Pa P), arI X (a 4) 20 (Pb P), arI X (a 5) 20 (Pd P)] ++ ((lsW b (PL P)))) A9 s9.heap H locs := hw
  refine W.eq (g2 := F0 m9 5 ls [.ref (b i.toNat)]) rfl ?_
  refine lo_get E hK hw huRX2 5 hf188 rfl (7 + i.toNat) (lsW_atE (k := 7) rfl (by omega)) rfl (by decide) (v := .int (iI (PL P i.toNat 5))) rfl dX7_carry_5 ?_
  exact lo_iret E hRt hLk hK hAe hw dX7_carry_8 rfl ⟨(by omega), rfl, rfl⟩
set_option maxHeartbeats 4000000 in
set_option maxRecDepth 100000 in
theorem kX7_interestSoFarn (l : Launch) (X : KX) (xo xi xh xs xr xt xl xa xc : Nat) (isz sv : Int) (a b : Nat → Nat) (P : PT) (i : Int) (hPI : PI P) (hi9 : i32 i) (hin : 0 ≤ i ∧ i < Pn P) : CM l X yX7_interestSoFar wsX7_interestSoFar ({ frames := 7, cells := 0, slots := 0, locals := 121 }) [.ref xo, .int (iI i)] ([oX7 xo xi isz (a 0) xh xs sv xr xt xl xa xc, oX3 (a 0) (a 1) (a 2) (Pn P), arN X (a 1) 6 b, oX0 (a 2) (a 3) (a 4) (a 5) (Px P) (Pk P), arI X (a 3) 20 (Pa P), arI X (a 4) 20 (Pb P), arI X (a 5) 20 (Pd P)] ++ ((lsW b (PL P)))) (fun v9 w9 => (0 ≤ i ∧ i < Pn P) ∧ v9 = some (.int (iI (PL P i.toNat 6))) ∧ w9 = [oX7 xo xi isz (a 0) xh xs sv xr xt xl xa xc, oX3 (a 0) (a 1) (a 2) (Pn P), arN X (a 1) 6 b, oX0 (a 2) (a 3) (a 4) (a 5) (Px P) (Pk P), arI X (a 3) 20 (Pa P), arI X (a 4) 20 (Pb P), arI X (a 5) 20 (Pd P)] ++ ((lsW b (PL P)))) 0 0 := by
  refine lo_enter (cc := cX7_interestSoFar) (maxL := 2) (ret := (some .int)) (lv := [(0, .ref xo), (1, .int (iI i))]) (by decide) rfl rfl (Nat.le_of_ble_eq_true rfl) ?_
  intro p9 e9 s9 m9 bl9 me9 c9 A9 ls hAe E hRt hLk hK hl hw
  have Ex := E.1
  have Eb := E.2.1
  have huRX2 : ∀ w ∈ u_ws RX2 TX2 10, w ∈ wsX7_interestSoFar := by decide +kernel
  have hf197 : (Cond.fieldLink RX7 197 "LoanSchedule$Loan" "interestSum" "I").before _ s9 = true := E.2.2.2.2 _ (List.mem_of_getElem? (i := 1) rfl)
  obtain ⟨⟨hn0, hn1⟩, ⟨hx0, hx1⟩, ⟨hk0, hk1⟩, hL⟩ := id hPI
  refine lv_aload_n Ex Eb dX7_interestSoFar_0 rfl (lv_at hl 0 rfl) ?_
  refine lv_iload_n Ex Eb dX7_interestSoFar_1 rfl (lv_at hl 1 rfl) ?_
  have hw : lo_Wd X (([]) ++ ([oX7 xo xi isz (a 0) xh xs sv xr xt xl xa xc, oX3 (a 0) (a 1) (a 2) (Pn P), arN X (a 1) 6 b, oX0 (a 2) (a 3) (a 4) (a 5) (Px P) (Pk P), arI X (a 3) 20 (Pa P), arI X (a 4) 20 (Pb P), arI X (a 5) 20 (Pd P)] ++ ((lsW b (PL P))))) A9 s9.heap _ _ := hw
  refine lo_callV (q0 := 0) (rest := []) E hK hw (kX7_loanAtn l X xo xi xh xs xr xt xl xa xc isz sv a b P i (by omega) (by omega) (by omega)) (cwV 1 E.2.2.2.2 gX7_interestSoFar_X7_loanAt rfl rfl rfl (by decide +kernel) ⟨Nat.le_of_ble_eq_true rfl, Nat.le_of_ble_eq_true rfl⟩) rfl rfl (List.range' 0 13) (lo_ps_tail (pre := []) rfl rfl) (by decide +kernel) hl.1 rfl rfl (Nat.le_of_ble_eq_true rfl) dX7_interestSoFar_2 ⟨Nat.le_of_ble_eq_true rfl, Nat.le_of_ble_eq_true rfl⟩ (fun v w1 H locs hq hw => ?_)
  obtain ⟨q2_0, rfl, rfl⟩ := hq
  have hw := lo_cast (lo_sets_tail (n := 13) (k := 0) (pre := []) (w0 := [oX7 xo xi isz (a 0) xh xs sv xr xt xl xa xc, oX3 (a 0) (a 1) (a 2) (Pn P), arN X (a 1) 6 b, oX0 (a 2) (a 3) (a 4) (a 5) (Px P) (Pk P), arI X (a 3) 20 (Pa P), arI X (a 4) 20 (Pb P), arI X (a 5) 20 (Pd P)] ++ ((lsW b (PL P)))) (w1 := [oX7 xo xi isz (a 0) xh xs sv xr xt xl xa xc, oX3 (a 0) (a 1) (a 2) (Pn P), arN X (a 1) 6 b, oX0 (a 2) (a 3) (a 4) (a 5) (Px P) (Pk P), arI X (a 3) 20 (Pa P), arI X (a 4) 20 (Pb P), arI X (a 5) 20 (Pd P)] ++ ((lsW b (PL P)))) rfl rfl rfl) hw
  have hw : lo_Wd X ([oX7 xo xi isz (a 0) xh xs sv xr xt xl xa xc, oX3 (a 0) (a 1) (a 2) (Pn P), arN X (a 1) 6 b, oX0 (a 2) (a 3) (a 4) (a 5) (Px P) (Pk P), arI X (a 3) 20 (Pa P), arI X (a 4) 20 (Pb P), arI X (a 5) 20 (Pd P)] ++ ((lsW b (PL P)))) A9 s9.heap H locs := hw
  refine W.eq (g2 := F0 m9 5 ls [.ref (b i.toNat)]) rfl ?_
  refine lo_get E hK hw huRX2 6 hf197 rfl (7 + i.toNat) (lsW_atE (k := 7) rfl (by omega)) rfl (by decide) (v := .int (iI (PL P i.toNat 6))) rfl dX7_interestSoFar_5 ?_
  exact lo_iret E hRt hLk hK hAe hw dX7_interestSoFar_8 rfl ⟨(by omega), rfl, rfl⟩
set_option maxHeartbeats 4000000 in
set_option maxRecDepth 100000 in
theorem kX7_paidSoFarn (l : Launch) (X : KX) (xo xi xh xs xr xt xl xa xc : Nat) (isz sv : Int) (a b : Nat → Nat) (P : PT) (i : Int) (hPI : PI P) (hi9 : i32 i) (hin : 0 ≤ i ∧ i < Pn P) : CM l X yX7_paidSoFar wsX7_paidSoFar ({ frames := 7, cells := 0, slots := 0, locals := 121 }) [.ref xo, .int (iI i)] ([oX7 xo xi isz (a 0) xh xs sv xr xt xl xa xc, oX3 (a 0) (a 1) (a 2) (Pn P), arN X (a 1) 6 b, oX0 (a 2) (a 3) (a 4) (a 5) (Px P) (Pk P), arI X (a 3) 20 (Pa P), arI X (a 4) 20 (Pb P), arI X (a 5) 20 (Pd P)] ++ ((lsW b (PL P)))) (fun v9 w9 => (0 ≤ i ∧ i < Pn P) ∧ v9 = some (.int (iI (PL P i.toNat 7))) ∧ w9 = [oX7 xo xi isz (a 0) xh xs sv xr xt xl xa xc, oX3 (a 0) (a 1) (a 2) (Pn P), arN X (a 1) 6 b, oX0 (a 2) (a 3) (a 4) (a 5) (Px P) (Pk P), arI X (a 3) 20 (Pa P), arI X (a 4) 20 (Pb P), arI X (a 5) 20 (Pd P)] ++ ((lsW b (PL P)))) 0 0 := by
  refine lo_enter (cc := cX7_paidSoFar) (maxL := 2) (ret := (some .int)) (lv := [(0, .ref xo), (1, .int (iI i))]) (by decide) rfl rfl (Nat.le_of_ble_eq_true rfl) ?_
  intro p9 e9 s9 m9 bl9 me9 c9 A9 ls hAe E hRt hLk hK hl hw
  have Ex := E.1
  have Eb := E.2.1
  have huRX2 : ∀ w ∈ u_ws RX2 TX2 10, w ∈ wsX7_paidSoFar := by decide +kernel
  have hf200 : (Cond.fieldLink RX7 200 "LoanSchedule$Loan" "paidSum" "I").before _ s9 = true := E.2.2.2.2 _ (List.mem_of_getElem? (i := 1) rfl)
  obtain ⟨⟨hn0, hn1⟩, ⟨hx0, hx1⟩, ⟨hk0, hk1⟩, hL⟩ := id hPI
  refine lv_aload_n Ex Eb dX7_paidSoFar_0 rfl (lv_at hl 0 rfl) ?_
  refine lv_iload_n Ex Eb dX7_paidSoFar_1 rfl (lv_at hl 1 rfl) ?_
  have hw : lo_Wd X (([]) ++ ([oX7 xo xi isz (a 0) xh xs sv xr xt xl xa xc, oX3 (a 0) (a 1) (a 2) (Pn P), arN X (a 1) 6 b, oX0 (a 2) (a 3) (a 4) (a 5) (Px P) (Pk P), arI X (a 3) 20 (Pa P), arI X (a 4) 20 (Pb P), arI X (a 5) 20 (Pd P)] ++ ((lsW b (PL P))))) A9 s9.heap _ _ := hw
  refine lo_callV (q0 := 0) (rest := []) E hK hw (kX7_loanAtn l X xo xi xh xs xr xt xl xa xc isz sv a b P i (by omega) (by omega) (by omega)) (cwV 1 E.2.2.2.2 gX7_paidSoFar_X7_loanAt rfl rfl rfl (by decide +kernel) ⟨Nat.le_of_ble_eq_true rfl, Nat.le_of_ble_eq_true rfl⟩) rfl rfl (List.range' 0 13) (lo_ps_tail (pre := []) rfl rfl) (by decide +kernel) hl.1 rfl rfl (Nat.le_of_ble_eq_true rfl) dX7_paidSoFar_2 ⟨Nat.le_of_ble_eq_true rfl, Nat.le_of_ble_eq_true rfl⟩ (fun v w1 H locs hq hw => ?_)
  obtain ⟨q2_0, rfl, rfl⟩ := hq
  have hw := lo_cast (lo_sets_tail (n := 13) (k := 0) (pre := []) (w0 := [oX7 xo xi isz (a 0) xh xs sv xr xt xl xa xc, oX3 (a 0) (a 1) (a 2) (Pn P), arN X (a 1) 6 b, oX0 (a 2) (a 3) (a 4) (a 5) (Px P) (Pk P), arI X (a 3) 20 (Pa P), arI X (a 4) 20 (Pb P), arI X (a 5) 20 (Pd P)] ++ ((lsW b (PL P)))) (w1 := [oX7 xo xi isz (a 0) xh xs sv xr xt xl xa xc, oX3 (a 0) (a 1) (a 2) (Pn P), arN X (a 1) 6 b, oX0 (a 2) (a 3) (a 4) (a 5) (Px P) (Pk P), arI X (a 3) 20 (Pa P), arI X (a 4) 20 (Pb P), arI X (a 5) 20 (Pd P)] ++ ((lsW b (PL P)))) rfl rfl rfl) hw
  have hw : lo_Wd X ([oX7 xo xi isz (a 0) xh xs sv xr xt xl xa xc, oX3 (a 0) (a 1) (a 2) (Pn P), arN X (a 1) 6 b, oX0 (a 2) (a 3) (a 4) (a 5) (Px P) (Pk P), arI X (a 3) 20 (Pa P), arI X (a 4) 20 (Pb P), arI X (a 5) 20 (Pd P)] ++ ((lsW b (PL P)))) A9 s9.heap H locs := hw
  refine W.eq (g2 := F0 m9 5 ls [.ref (b i.toNat)]) rfl ?_
  refine lo_get E hK hw huRX2 7 hf200 rfl (7 + i.toNat) (lsW_atE (k := 7) rfl (by omega)) rfl (by decide) (v := .int (iI (PL P i.toNat 7))) rfl dX7_paidSoFar_5 ?_
  exact lo_iret E hRt hLk hK hAe hw dX7_paidSoFar_8 rfl ⟨(by omega), rfl, rfl⟩
set_option maxHeartbeats 4000000 in
set_option maxRecDepth 100000 in
theorem kX7_paidMonthsn (l : Launch) (X : KX) (xo xi xh xs xr xt xl xa xc : Nat) (isz sv : Int) (a b : Nat → Nat) (P : PT) (i : Int) (hPI : PI P) (hi9 : i32 i) (hin : 0 ≤ i ∧ i < Pn P) : CM l X yX7_paidMonths wsX7_paidMonths ({ frames := 7, cells := 0, slots := 0, locals := 121 }) [.ref xo, .int (iI i)] ([oX7 xo xi isz (a 0) xh xs sv xr xt xl xa xc, oX3 (a 0) (a 1) (a 2) (Pn P), arN X (a 1) 6 b, oX0 (a 2) (a 3) (a 4) (a 5) (Px P) (Pk P), arI X (a 3) 20 (Pa P), arI X (a 4) 20 (Pb P), arI X (a 5) 20 (Pd P)] ++ ((lsW b (PL P)))) (fun v9 w9 => (0 ≤ i ∧ i < Pn P) ∧ v9 = some (.int (iI (PL P i.toNat 8))) ∧ w9 = [oX7 xo xi isz (a 0) xh xs sv xr xt xl xa xc, oX3 (a 0) (a 1) (a 2) (Pn P), arN X (a 1) 6 b, oX0 (a 2) (a 3) (a 4) (a 5) (Px P) (Pk P), arI X (a 3) 20 (Pa P), arI X (a 4) 20 (Pb P), arI X (a 5) 20 (Pd P)] ++ ((lsW b (PL P)))) 0 0 := by
  refine lo_enter (cc := cX7_paidMonths) (maxL := 2) (ret := (some .int)) (lv := [(0, .ref xo), (1, .int (iI i))]) (by decide) rfl rfl (Nat.le_of_ble_eq_true rfl) ?_
  intro p9 e9 s9 m9 bl9 me9 c9 A9 ls hAe E hRt hLk hK hl hw
  have Ex := E.1
  have Eb := E.2.1
  have huRX2 : ∀ w ∈ u_ws RX2 TX2 10, w ∈ wsX7_paidMonths := by decide +kernel
  have hf203 : (Cond.fieldLink RX7 203 "LoanSchedule$Loan" "settledCount" "I").before _ s9 = true := E.2.2.2.2 _ (List.mem_of_getElem? (i := 1) rfl)
  obtain ⟨⟨hn0, hn1⟩, ⟨hx0, hx1⟩, ⟨hk0, hk1⟩, hL⟩ := id hPI
  refine lv_aload_n Ex Eb dX7_paidMonths_0 rfl (lv_at hl 0 rfl) ?_
  refine lv_iload_n Ex Eb dX7_paidMonths_1 rfl (lv_at hl 1 rfl) ?_
  have hw : lo_Wd X (([]) ++ ([oX7 xo xi isz (a 0) xh xs sv xr xt xl xa xc, oX3 (a 0) (a 1) (a 2) (Pn P), arN X (a 1) 6 b, oX0 (a 2) (a 3) (a 4) (a 5) (Px P) (Pk P), arI X (a 3) 20 (Pa P), arI X (a 4) 20 (Pb P), arI X (a 5) 20 (Pd P)] ++ ((lsW b (PL P))))) A9 s9.heap _ _ := hw
  refine lo_callV (q0 := 0) (rest := []) E hK hw (kX7_loanAtn l X xo xi xh xs xr xt xl xa xc isz sv a b P i (by omega) (by omega) (by omega)) (cwV 1 E.2.2.2.2 gX7_paidMonths_X7_loanAt rfl rfl rfl (by decide +kernel) ⟨Nat.le_of_ble_eq_true rfl, Nat.le_of_ble_eq_true rfl⟩) rfl rfl (List.range' 0 13) (lo_ps_tail (pre := []) rfl rfl) (by decide +kernel) hl.1 rfl rfl (Nat.le_of_ble_eq_true rfl) dX7_paidMonths_2 ⟨Nat.le_of_ble_eq_true rfl, Nat.le_of_ble_eq_true rfl⟩ (fun v w1 H locs hq hw => ?_)
  obtain ⟨q2_0, rfl, rfl⟩ := hq
  have hw := lo_cast (lo_sets_tail (n := 13) (k := 0) (pre := []) (w0 := [oX7 xo xi isz (a 0) xh xs sv xr xt xl xa xc, oX3 (a 0) (a 1) (a 2) (Pn P), arN X (a 1) 6 b, oX0 (a 2) (a 3) (a 4) (a 5) (Px P) (Pk P), arI X (a 3) 20 (Pa P), arI X (a 4) 20 (Pb P), arI X (a 5) 20 (Pd P)] ++ ((lsW b (PL P)))) (w1 := [oX7 xo xi isz (a 0) xh xs sv xr xt xl xa xc, oX3 (a 0) (a 1) (a 2) (Pn P), arN X (a 1) 6 b, oX0 (a 2) (a 3) (a 4) (a 5) (Px P) (Pk P), arI X (a 3) 20 (Pa P), arI X (a 4) 20 (Pb P), arI X (a 5) 20 (Pd P)] ++ ((lsW b (PL P)))) rfl rfl rfl) hw
  have hw : lo_Wd X ([oX7 xo xi isz (a 0) xh xs sv xr xt xl xa xc, oX3 (a 0) (a 1) (a 2) (Pn P), arN X (a 1) 6 b, oX0 (a 2) (a 3) (a 4) (a 5) (Px P) (Pk P), arI X (a 3) 20 (Pa P), arI X (a 4) 20 (Pb P), arI X (a 5) 20 (Pd P)] ++ ((lsW b (PL P)))) A9 s9.heap H locs := hw
  refine W.eq (g2 := F0 m9 5 ls [.ref (b i.toNat)]) rfl ?_
  refine lo_get E hK hw huRX2 8 hf203 rfl (7 + i.toNat) (lsW_atE (k := 7) rfl (by omega)) rfl (by decide) (v := .int (iI (PL P i.toNat 8))) rfl dX7_paidMonths_5 ?_
  exact lo_iret E hRt hLk hK hAe hw dX7_paidMonths_8 rfl ⟨(by omega), rfl, rfl⟩
set_option maxHeartbeats 4000000 in
set_option maxRecDepth 100000 in
theorem kX7_skippedMonthsn (l : Launch) (X : KX) (xo xi xh xs xr xt xl xa xc : Nat) (isz sv : Int) (a b : Nat → Nat) (P : PT) (i : Int) (hPI : PI P) (hi9 : i32 i) (hin : 0 ≤ i ∧ i < Pn P) : CM l X yX7_skippedMonths wsX7_skippedMonths ({ frames := 7, cells := 0, slots := 0, locals := 121 }) [.ref xo, .int (iI i)] ([oX7 xo xi isz (a 0) xh xs sv xr xt xl xa xc, oX3 (a 0) (a 1) (a 2) (Pn P), arN X (a 1) 6 b, oX0 (a 2) (a 3) (a 4) (a 5) (Px P) (Pk P), arI X (a 3) 20 (Pa P), arI X (a 4) 20 (Pb P), arI X (a 5) 20 (Pd P)] ++ ((lsW b (PL P)))) (fun v9 w9 => (0 ≤ i ∧ i < Pn P) ∧ v9 = some (.int (iI (PL P i.toNat 9))) ∧ w9 = [oX7 xo xi isz (a 0) xh xs sv xr xt xl xa xc, oX3 (a 0) (a 1) (a 2) (Pn P), arN X (a 1) 6 b, oX0 (a 2) (a 3) (a 4) (a 5) (Px P) (Pk P), arI X (a 3) 20 (Pa P), arI X (a 4) 20 (Pb P), arI X (a 5) 20 (Pd P)] ++ ((lsW b (PL P)))) 0 0 := by
  refine lo_enter (cc := cX7_skippedMonths) (maxL := 2) (ret := (some .int)) (lv := [(0, .ref xo), (1, .int (iI i))]) (by decide) rfl rfl (Nat.le_of_ble_eq_true rfl) ?_
  intro p9 e9 s9 m9 bl9 me9 c9 A9 ls hAe E hRt hLk hK hl hw
  have Ex := E.1
  have Eb := E.2.1
  have huRX2 : ∀ w ∈ u_ws RX2 TX2 10, w ∈ wsX7_skippedMonths := by decide +kernel
  have hf206 : (Cond.fieldLink RX7 206 "LoanSchedule$Loan" "deferredCount" "I").before _ s9 = true := E.2.2.2.2 _ (List.mem_of_getElem? (i := 1) rfl)
  obtain ⟨⟨hn0, hn1⟩, ⟨hx0, hx1⟩, ⟨hk0, hk1⟩, hL⟩ := id hPI
  refine lv_aload_n Ex Eb dX7_skippedMonths_0 rfl (lv_at hl 0 rfl) ?_
  refine lv_iload_n Ex Eb dX7_skippedMonths_1 rfl (lv_at hl 1 rfl) ?_
  have hw : lo_Wd X (([]) ++ ([oX7 xo xi isz (a 0) xh xs sv xr xt xl xa xc, oX3 (a 0) (a 1) (a 2) (Pn P), arN X (a 1) 6 b, oX0 (a 2) (a 3) (a 4) (a 5) (Px P) (Pk P), arI X (a 3) 20 (Pa P), arI X (a 4) 20 (Pb P), arI X (a 5) 20 (Pd P)] ++ ((lsW b (PL P))))) A9 s9.heap _ _ := hw
  refine lo_callV (q0 := 0) (rest := []) E hK hw (kX7_loanAtn l X xo xi xh xs xr xt xl xa xc isz sv a b P i (by omega) (by omega) (by omega)) (cwV 1 E.2.2.2.2 gX7_skippedMonths_X7_loanAt rfl rfl rfl (by decide +kernel) ⟨Nat.le_of_ble_eq_true rfl, Nat.le_of_ble_eq_true rfl⟩) rfl rfl (List.range' 0 13) (lo_ps_tail (pre := []) rfl rfl) (by decide +kernel) hl.1 rfl rfl (Nat.le_of_ble_eq_true rfl) dX7_skippedMonths_2 ⟨Nat.le_of_ble_eq_true rfl, Nat.le_of_ble_eq_true rfl⟩ (fun v w1 H locs hq hw => ?_)
  obtain ⟨q2_0, rfl, rfl⟩ := hq
  have hw := lo_cast (lo_sets_tail (n := 13) (k := 0) (pre := []) (w0 := [oX7 xo xi isz (a 0) xh xs sv xr xt xl xa xc, oX3 (a 0) (a 1) (a 2) (Pn P), arN X (a 1) 6 b, oX0 (a 2) (a 3) (a 4) (a 5) (Px P) (Pk P), arI X (a 3) 20 (Pa P), arI X (a 4) 20 (Pb P), arI X (a 5) 20 (Pd P)] ++ ((lsW b (PL P)))) (w1 := [oX7 xo xi isz (a 0) xh xs sv xr xt xl xa xc, oX3 (a 0) (a 1) (a 2) (Pn P), arN X (a 1) 6 b, oX0 (a 2) (a 3) (a 4) (a 5) (Px P) (Pk P), arI X (a 3) 20 (Pa P), arI X (a 4) 20 (Pb P), arI X (a 5) 20 (Pd P)] ++ ((lsW b (PL P)))) rfl rfl rfl) hw
  have hw : lo_Wd X ([oX7 xo xi isz (a 0) xh xs sv xr xt xl xa xc, oX3 (a 0) (a 1) (a 2) (Pn P), arN X (a 1) 6 b, oX0 (a 2) (a 3) (a 4) (a 5) (Px P) (Pk P), arI X (a 3) 20 (Pa P), arI X (a 4) 20 (Pb P), arI X (a 5) 20 (Pd P)] ++ ((lsW b (PL P)))) A9 s9.heap H locs := hw
  refine W.eq (g2 := F0 m9 5 ls [.ref (b i.toNat)]) rfl ?_
  refine lo_get E hK hw huRX2 9 hf206 rfl (7 + i.toNat) (lsW_atE (k := 7) rfl (by omega)) rfl (by decide) (v := .int (iI (PL P i.toNat 9))) rfl dX7_skippedMonths_5 ?_
  exact lo_iret E hRt hLk hK hAe hw dX7_skippedMonths_8 rfl ⟨(by omega), rfl, rfl⟩
set_option maxHeartbeats 4000000 in
set_option maxRecDepth 100000 in
theorem kX7_isOpenn (l : Launch) (X : KX) (xo xi xh xs xr xt xl xa xc : Nat) (isz sv : Int) (a b : Nat → Nat) (P : PT) (i : Int) (hPI : PI P) (hi9 : i32 i) (hin : 0 ≤ i ∧ i < Pn P) : CM l X yX7_isOpen wsX7_isOpen ({ frames := 7, cells := 0, slots := 0, locals := 121 }) [.ref xo, .int (iI i)] ([oX7 xo xi isz (a 0) xh xs sv xr xt xl xa xc, oX3 (a 0) (a 1) (a 2) (Pn P), arN X (a 1) 6 b, oX0 (a 2) (a 3) (a 4) (a 5) (Px P) (Pk P), arI X (a 3) 20 (Pa P), arI X (a 4) 20 (Pb P), arI X (a 5) 20 (Pd P)] ++ ((lsW b (PL P)))) (fun v9 w9 => ∃ z : Int, (0 ≤ i ∧ i < Pn P) ∧ ((z = 1 ∧ 0 < PL P i.toNat 1) ∨ (z = 0 ∧ PL P i.toNat 1 ≤ 0)) ∧ v9 = some (.int (iI z)) ∧ w9 = [oX7 xo xi isz (a 0) xh xs sv xr xt xl xa xc, oX3 (a 0) (a 1) (a 2) (Pn P), arN X (a 1) 6 b, oX0 (a 2) (a 3) (a 4) (a 5) (Px P) (Pk P), arI X (a 3) 20 (Pa P), arI X (a 4) 20 (Pb P), arI X (a 5) 20 (Pd P)] ++ ((lsW b (PL P)))) 0 0 := by
  refine lo_enter (cc := cX7_isOpen) (maxL := 2) (ret := (some .boolean)) (lv := [(0, .ref xo), (1, .int (iI i))]) (by decide) rfl rfl (Nat.le_of_ble_eq_true rfl) ?_
  intro p9 e9 s9 m9 bl9 me9 c9 A9 ls hAe E hRt hLk hK hl hw
  have Ex := E.1
  have Eb := E.2.1
  obtain ⟨⟨hn0, hn1⟩, ⟨hx0, hx1⟩, ⟨hk0, hk1⟩, hL⟩ := id hPI
  refine lv_aload_n Ex Eb dX7_isOpen_0 rfl (lv_at hl 0 rfl) ?_
  refine lv_iload_n Ex Eb dX7_isOpen_1 rfl (lv_at hl 1 rfl) ?_
  have hw : lo_Wd X (([]) ++ ([oX7 xo xi isz (a 0) xh xs sv xr xt xl xa xc, oX3 (a 0) (a 1) (a 2) (Pn P), arN X (a 1) 6 b, oX0 (a 2) (a 3) (a 4) (a 5) (Px P) (Pk P), arI X (a 3) 20 (Pa P), arI X (a 4) 20 (Pb P), arI X (a 5) 20 (Pd P)] ++ ((lsW b (PL P))))) A9 s9.heap _ _ := hw
  refine lo_callV (q0 := 0) (rest := []) E hK hw (kX7_loanAtn l X xo xi xh xs xr xt xl xa xc isz sv a b P i (by omega) (by omega) (by omega)) (cwV 1 E.2.2.2.2 gX7_isOpen_X7_loanAt rfl rfl rfl (by decide +kernel) ⟨Nat.le_of_ble_eq_true rfl, Nat.le_of_ble_eq_true rfl⟩) rfl rfl (List.range' 0 13) (lo_ps_tail (pre := []) rfl rfl) (by decide +kernel) hl.1 rfl rfl (Nat.le_of_ble_eq_true rfl) dX7_isOpen_2 ⟨Nat.le_of_ble_eq_true rfl, Nat.le_of_ble_eq_true rfl⟩ (fun v w1 H locs hq hw => ?_)
  obtain ⟨q2_0, rfl, rfl⟩ := hq
  have hw := lo_cast (lo_sets_tail (n := 13) (k := 0) (pre := []) (w0 := [oX7 xo xi isz (a 0) xh xs sv xr xt xl xa xc, oX3 (a 0) (a 1) (a 2) (Pn P), arN X (a 1) 6 b, oX0 (a 2) (a 3) (a 4) (a 5) (Px P) (Pk P), arI X (a 3) 20 (Pa P), arI X (a 4) 20 (Pb P), arI X (a 5) 20 (Pd P)] ++ ((lsW b (PL P)))) (w1 := [oX7 xo xi isz (a 0) xh xs sv xr xt xl xa xc, oX3 (a 0) (a 1) (a 2) (Pn P), arN X (a 1) 6 b, oX0 (a 2) (a 3) (a 4) (a 5) (Px P) (Pk P), arI X (a 3) 20 (Pa P), arI X (a 4) 20 (Pb P), arI X (a 5) 20 (Pd P)] ++ ((lsW b (PL P)))) rfl rfl rfl) hw
  have hw : lo_Wd X ([oX7 xo xi isz (a 0) xh xs sv xr xt xl xa xc, oX3 (a 0) (a 1) (a 2) (Pn P), arN X (a 1) 6 b, oX0 (a 2) (a 3) (a 4) (a 5) (Px P) (Pk P), arI X (a 3) 20 (Pa P), arI X (a 4) 20 (Pb P), arI X (a 5) 20 (Pd P)] ++ ((lsW b (PL P)))) A9 s9.heap H locs := hw
  refine W.eq (g2 := F0 m9 5 ls [.ref (b i.toNat)]) rfl ?_
  have hLi := hL i.toNat (by omega)
  obtain ⟨⟨hb0, hb1⟩, ⟨hr0, hr1⟩, ⟨hc0, hc1⟩, ⟨hm0, hm1⟩, ⟨hi0, hi1⟩, ⟨hs0, hs1⟩, hop, hcl⟩ := id hLi
  refine lo_callV (q0 := (7 + i.toNat)) (rest := []) E hK hw (kX2_isRunning l X (b i.toNat) (PL P i.toNat) (by omega)) (cwV 0 E.2.2.2.2 gX7_isOpen_X2_isRunning rfl rfl rfl (by decide +kernel) ⟨Nat.le_of_ble_eq_true rfl, Nat.le_of_ble_eq_true rfl⟩) (lsW_atE (k := 7) rfl (by omega)) rfl [7 + i.toNat] (lo_ps_cons (lsW_atE (k := 7) rfl (by omega)) lo_ps_nil) (by simp [va_nd]) hl.1 rfl rfl (Nat.le_of_ble_eq_true rfl) dX7_isOpen_5 ⟨Nat.le_of_ble_eq_true rfl, Nat.le_of_ble_eq_true rfl⟩ (fun v w1 H locs hq hw => ?_)
  obtain ⟨r1, q5_0, rfl, rfl⟩ := hq
  have hw := lo_cast (lsW_cE0 (k := 7) rfl (by omega)) hw
  have hw : lo_Wd X ([oX7 xo xi isz (a 0) xh xs sv xr xt xl xa xc, oX3 (a 0) (a 1) (a 2) (Pn P), arN X (a 1) 6 b, oX0 (a 2) (a 3) (a 4) (a 5) (Px P) (Pk P), arI X (a 3) 20 (Pa P), arI X (a 4) 20 (Pb P), arI X (a 5) 20 (Pd P)] ++ ((lsW b (PL P)))) A9 s9.heap H locs := hw
  refine W.eq (g2 := F0 m9 8 ls [.int (iI r1)]) rfl ?_
  exact lo_zret E hRt hLk hK hAe hw dX7_isOpen_8 (nar_b (by omega)) rfl ⟨r1, (by omega), (by omega), rfl, rfl⟩
set_option maxHeartbeats 4000000 in
set_option maxRecDepth 100000 in
theorem kX7_interestDuen (l : Launch) (X : KX) (xo xi xh xs xr xt xl xa xc : Nat) (isz sv : Int) (a b : Nat → Nat) (P : PT) (i : Int) (hPI : PI P) (hi9 : i32 i) (hin : 0 ≤ i ∧ i < Pn P) : CM l X yX7_interestDue wsX7_interestDue ({ frames := 7, cells := 0, slots := 0, locals := 121 }) [.ref xo, .int (iI i)] ([oX7 xo xi isz (a 0) xh xs sv xr xt xl xa xc, oX3 (a 0) (a 1) (a 2) (Pn P), arN X (a 1) 6 b, oX0 (a 2) (a 3) (a 4) (a 5) (Px P) (Pk P), arI X (a 3) 20 (Pa P), arI X (a 4) 20 (Pb P), arI X (a 5) 20 (Pd P)] ++ ((lsW b (PL P)))) (fun v9 w9 => (0 ≤ i ∧ i < Pn P) ∧ v9 = some (.int (iI (fI (PL P i.toNat 1) (PL P i.toNat 2) (PL P i.toNat 5)))) ∧ w9 = [oX7 xo xi isz (a 0) xh xs sv xr xt xl xa xc, oX3 (a 0) (a 1) (a 2) (Pn P), arN X (a 1) 6 b, oX0 (a 2) (a 3) (a 4) (a 5) (Px P) (Pk P), arI X (a 3) 20 (Pa P), arI X (a 4) 20 (Pb P), arI X (a 5) 20 (Pd P)] ++ ((lsW b (PL P)))) 0 0 := by
  refine lo_enter (cc := cX7_interestDue) (maxL := 2) (ret := (some .int)) (lv := [(0, .ref xo), (1, .int (iI i))]) (by decide) rfl rfl (Nat.le_of_ble_eq_true rfl) ?_
  intro p9 e9 s9 m9 bl9 me9 c9 A9 ls hAe E hRt hLk hK hl hw
  have Ex := E.1
  have Eb := E.2.1
  obtain ⟨⟨hn0, hn1⟩, ⟨hx0, hx1⟩, ⟨hk0, hk1⟩, hL⟩ := id hPI
  refine lv_aload_n Ex Eb dX7_interestDue_0 rfl (lv_at hl 0 rfl) ?_
  refine lv_iload_n Ex Eb dX7_interestDue_1 rfl (lv_at hl 1 rfl) ?_
  have hw : lo_Wd X (([]) ++ ([oX7 xo xi isz (a 0) xh xs sv xr xt xl xa xc, oX3 (a 0) (a 1) (a 2) (Pn P), arN X (a 1) 6 b, oX0 (a 2) (a 3) (a 4) (a 5) (Px P) (Pk P), arI X (a 3) 20 (Pa P), arI X (a 4) 20 (Pb P), arI X (a 5) 20 (Pd P)] ++ ((lsW b (PL P))))) A9 s9.heap _ _ := hw
  refine lo_callV (q0 := 0) (rest := []) E hK hw (kX7_loanAtn l X xo xi xh xs xr xt xl xa xc isz sv a b P i (by omega) (by omega) (by omega)) (cwV 1 E.2.2.2.2 gX7_interestDue_X7_loanAt rfl rfl rfl (by decide +kernel) ⟨Nat.le_of_ble_eq_true rfl, Nat.le_of_ble_eq_true rfl⟩) rfl rfl (List.range' 0 13) (lo_ps_tail (pre := []) rfl rfl) (by decide +kernel) hl.1 rfl rfl (Nat.le_of_ble_eq_true rfl) dX7_interestDue_2 ⟨Nat.le_of_ble_eq_true rfl, Nat.le_of_ble_eq_true rfl⟩ (fun v w1 H locs hq hw => ?_)
  obtain ⟨q2_0, rfl, rfl⟩ := hq
  have hw := lo_cast (lo_sets_tail (n := 13) (k := 0) (pre := []) (w0 := [oX7 xo xi isz (a 0) xh xs sv xr xt xl xa xc, oX3 (a 0) (a 1) (a 2) (Pn P), arN X (a 1) 6 b, oX0 (a 2) (a 3) (a 4) (a 5) (Px P) (Pk P), arI X (a 3) 20 (Pa P), arI X (a 4) 20 (Pb P), arI X (a 5) 20 (Pd P)] ++ ((lsW b (PL P)))) (w1 := [oX7 xo xi isz (a 0) xh xs sv xr xt xl xa xc, oX3 (a 0) (a 1) (a 2) (Pn P), arN X (a 1) 6 b, oX0 (a 2) (a 3) (a 4) (a 5) (Px P) (Pk P), arI X (a 3) 20 (Pa P), arI X (a 4) 20 (Pb P), arI X (a 5) 20 (Pd P)] ++ ((lsW b (PL P)))) rfl rfl rfl) hw
  have hw : lo_Wd X ([oX7 xo xi isz (a 0) xh xs sv xr xt xl xa xc, oX3 (a 0) (a 1) (a 2) (Pn P), arN X (a 1) 6 b, oX0 (a 2) (a 3) (a 4) (a 5) (Px P) (Pk P), arI X (a 3) 20 (Pa P), arI X (a 4) 20 (Pb P), arI X (a 5) 20 (Pd P)] ++ ((lsW b (PL P)))) A9 s9.heap H locs := hw
  refine W.eq (g2 := F0 m9 5 ls [.ref (b i.toNat)]) rfl ?_
  have hLi := hL i.toNat (by omega)
  obtain ⟨⟨hb0, hb1⟩, ⟨hr0, hr1⟩, ⟨hc0, hc1⟩, ⟨hm0, hm1⟩, ⟨hi0, hi1⟩, ⟨hs0, hs1⟩, hop, hcl⟩ := id hLi
  refine lo_callV (q0 := (7 + i.toNat)) (rest := []) E hK hw (kX2_nextInterest l X (b i.toNat) (PL P i.toNat) (by omega) (by omega) (by omega) (by omega) (by omega) (by omega)) (cwV 0 E.2.2.2.2 gX7_interestDue_X2_nextInterest rfl rfl rfl (by decide +kernel) ⟨Nat.le_of_ble_eq_true rfl, Nat.le_of_ble_eq_true rfl⟩) (lsW_atE (k := 7) rfl (by omega)) rfl [7 + i.toNat] (lo_ps_cons (lsW_atE (k := 7) rfl (by omega)) lo_ps_nil) (by simp [va_nd]) hl.1 rfl rfl (Nat.le_of_ble_eq_true rfl) dX7_interestDue_5 ⟨Nat.le_of_ble_eq_true rfl, Nat.le_of_ble_eq_true rfl⟩ (fun v w1 H locs hq hw => ?_)
  obtain ⟨rfl, rfl⟩ := hq
  have hw := lo_cast (lsW_cE0 (k := 7) rfl (by omega)) hw
  have hw : lo_Wd X ([oX7 xo xi isz (a 0) xh xs sv xr xt xl xa xc, oX3 (a 0) (a 1) (a 2) (Pn P), arN X (a 1) 6 b, oX0 (a 2) (a 3) (a 4) (a 5) (Px P) (Pk P), arI X (a 3) 20 (Pa P), arI X (a 4) 20 (Pb P), arI X (a 5) 20 (Pd P)] ++ ((lsW b (PL P)))) A9 s9.heap H locs := hw
  refine W.eq (g2 := F0 m9 8 ls [.int (iI (fI (PL P i.toNat 1) (PL P i.toNat 2) (PL P i.toNat 5)))]) rfl ?_
  exact lo_iret E hRt hLk hK hAe hw dX7_interestDue_8 rfl ⟨(by omega), rfl, rfl⟩
set_option maxHeartbeats 4000000 in
set_option maxRecDepth 100000 in
theorem kX7_amountDuen (l : Launch) (X : KX) (xo xi xh xs xr xt xl xa xc : Nat) (isz sv : Int) (a b : Nat → Nat) (P : PT) (i : Int) (hPI : PI P) (hi9 : i32 i) (hin : 0 ≤ i ∧ i < Pn P) : CM l X yX7_amountDue wsX7_amountDue ({ frames := 7, cells := 0, slots := 0, locals := 121 }) [.ref xo, .int (iI i)] ([oX7 xo xi isz (a 0) xh xs sv xr xt xl xa xc, oX3 (a 0) (a 1) (a 2) (Pn P), arN X (a 1) 6 b, oX0 (a 2) (a 3) (a 4) (a 5) (Px P) (Pk P), arI X (a 3) 20 (Pa P), arI X (a 4) 20 (Pb P), arI X (a 5) 20 (Pd P)] ++ ((lsW b (PL P)))) (fun v9 w9 => (0 ≤ i ∧ i < Pn P) ∧ v9 = some (.int (iI (dueL (PL P i.toNat)))) ∧ w9 = [oX7 xo xi isz (a 0) xh xs sv xr xt xl xa xc, oX3 (a 0) (a 1) (a 2) (Pn P), arN X (a 1) 6 b, oX0 (a 2) (a 3) (a 4) (a 5) (Px P) (Pk P), arI X (a 3) 20 (Pa P), arI X (a 4) 20 (Pb P), arI X (a 5) 20 (Pd P)] ++ ((lsW b (PL P)))) 0 0 := by
  refine lo_enter (cc := cX7_amountDue) (maxL := 2) (ret := (some .int)) (lv := [(0, .ref xo), (1, .int (iI i))]) (by decide) rfl rfl (Nat.le_of_ble_eq_true rfl) ?_
  intro p9 e9 s9 m9 bl9 me9 c9 A9 ls hAe E hRt hLk hK hl hw
  have Ex := E.1
  have Eb := E.2.1
  obtain ⟨⟨hn0, hn1⟩, ⟨hx0, hx1⟩, ⟨hk0, hk1⟩, hL⟩ := id hPI
  refine lv_aload_n Ex Eb dX7_amountDue_0 rfl (lv_at hl 0 rfl) ?_
  refine lv_iload_n Ex Eb dX7_amountDue_1 rfl (lv_at hl 1 rfl) ?_
  have hw : lo_Wd X (([]) ++ ([oX7 xo xi isz (a 0) xh xs sv xr xt xl xa xc, oX3 (a 0) (a 1) (a 2) (Pn P), arN X (a 1) 6 b, oX0 (a 2) (a 3) (a 4) (a 5) (Px P) (Pk P), arI X (a 3) 20 (Pa P), arI X (a 4) 20 (Pb P), arI X (a 5) 20 (Pd P)] ++ ((lsW b (PL P))))) A9 s9.heap _ _ := hw
  refine lo_callV (q0 := 0) (rest := []) E hK hw (kX7_loanAtn l X xo xi xh xs xr xt xl xa xc isz sv a b P i (by omega) (by omega) (by omega)) (cwV 1 E.2.2.2.2 gX7_amountDue_X7_loanAt rfl rfl rfl (by decide +kernel) ⟨Nat.le_of_ble_eq_true rfl, Nat.le_of_ble_eq_true rfl⟩) rfl rfl (List.range' 0 13) (lo_ps_tail (pre := []) rfl rfl) (by decide +kernel) hl.1 rfl rfl (Nat.le_of_ble_eq_true rfl) dX7_amountDue_2 ⟨Nat.le_of_ble_eq_true rfl, Nat.le_of_ble_eq_true rfl⟩ (fun v w1 H locs hq hw => ?_)
  obtain ⟨q2_0, rfl, rfl⟩ := hq
  have hw := lo_cast (lo_sets_tail (n := 13) (k := 0) (pre := []) (w0 := [oX7 xo xi isz (a 0) xh xs sv xr xt xl xa xc, oX3 (a 0) (a 1) (a 2) (Pn P), arN X (a 1) 6 b, oX0 (a 2) (a 3) (a 4) (a 5) (Px P) (Pk P), arI X (a 3) 20 (Pa P), arI X (a 4) 20 (Pb P), arI X (a 5) 20 (Pd P)] ++ ((lsW b (PL P)))) (w1 := [oX7 xo xi isz (a 0) xh xs sv xr xt xl xa xc, oX3 (a 0) (a 1) (a 2) (Pn P), arN X (a 1) 6 b, oX0 (a 2) (a 3) (a 4) (a 5) (Px P) (Pk P), arI X (a 3) 20 (Pa P), arI X (a 4) 20 (Pb P), arI X (a 5) 20 (Pd P)] ++ ((lsW b (PL P)))) rfl rfl rfl) hw
  have hw : lo_Wd X ([oX7 xo xi isz (a 0) xh xs sv xr xt xl xa xc, oX3 (a 0) (a 1) (a 2) (Pn P), arN X (a 1) 6 b, oX0 (a 2) (a 3) (a 4) (a 5) (Px P) (Pk P), arI X (a 3) 20 (Pa P), arI X (a 4) 20 (Pb P), arI X (a 5) 20 (Pd P)] ++ ((lsW b (PL P)))) A9 s9.heap H locs := hw
  refine W.eq (g2 := F0 m9 5 ls [.ref (b i.toNat)]) rfl ?_
  have hLi := hL i.toNat (by omega)
  obtain ⟨⟨hb0, hb1⟩, ⟨hr0, hr1⟩, ⟨hc0, hc1⟩, ⟨hm0, hm1⟩, ⟨hi0, hi1⟩, ⟨hs0, hs1⟩, hop, hcl⟩ := id hLi
  refine lo_callV (q0 := (7 + i.toNat)) (rest := []) E hK hw (kX2_nextDue l X (b i.toNat) (PL P i.toNat) (by omega) (by omega) (by omega) (by omega) (by omega) (by omega) (by omega) (by omega)) (cwV 0 E.2.2.2.2 gX7_amountDue_X2_nextDue rfl rfl rfl (by decide +kernel) ⟨Nat.le_of_ble_eq_true rfl, Nat.le_of_ble_eq_true rfl⟩) (lsW_atE (k := 7) rfl (by omega)) rfl [7 + i.toNat] (lo_ps_cons (lsW_atE (k := 7) rfl (by omega)) lo_ps_nil) (by simp [va_nd]) hl.1 rfl rfl (Nat.le_of_ble_eq_true rfl) dX7_amountDue_5 ⟨Nat.le_of_ble_eq_true rfl, Nat.le_of_ble_eq_true rfl⟩ (fun v w1 H locs hq hw => ?_)
  obtain ⟨rfl, rfl⟩ := hq
  have hw := lo_cast (lsW_cE0 (k := 7) rfl (by omega)) hw
  have hw : lo_Wd X ([oX7 xo xi isz (a 0) xh xs sv xr xt xl xa xc, oX3 (a 0) (a 1) (a 2) (Pn P), arN X (a 1) 6 b, oX0 (a 2) (a 3) (a 4) (a 5) (Px P) (Pk P), arI X (a 3) 20 (Pa P), arI X (a 4) 20 (Pb P), arI X (a 5) 20 (Pd P)] ++ ((lsW b (PL P)))) A9 s9.heap H locs := hw
  refine W.eq (g2 := F0 m9 8 ls [.int (iI (dueL (PL P i.toNat)))]) rfl ?_
  exact lo_iret E hRt hLk hK hAe hw dX7_amountDue_8 rfl ⟨(by omega), rfl, rfl⟩
set_option maxHeartbeats 4000000 in
set_option maxRecDepth 100000 in
theorem kX7_interestAheadn (l : Launch) (X : KX) (xo xi xh xs xr xt xl xa xc : Nat) (isz sv : Int) (A0 : Nat → Int) (a b : Nat → Nat) (P : PT) (i : Int) (hPI : PI P) (hi9 : i32 i) (hin : 0 ≤ i ∧ i < Pn P) : CM l X yX7_interestAhead wsX7_interestAhead ({ frames := 7, cells := 0, slots := 0, locals := 121 }) [.ref xo, .int (iI i)] ([oX7 xo xi isz (a 0) xh xs sv xr xt xl xa xc, oX2 xa (A0 0) (A0 1) (A0 2) (A0 3) (A0 4) (A0 5) (A0 6) (A0 7) (A0 8) (A0 9), oX3 (a 0) (a 1) (a 2) (Pn P), arN X (a 1) 6 b, oX0 (a 2) (a 3) (a 4) (a 5) (Px P) (Pk P), arI X (a 3) 20 (Pa P), arI X (a 4) 20 (Pb P), arI X (a 5) 20 (Pd P)] ++ ((lsW b (PL P)))) (fun v9 w9 => ∃ A9 : Nat → Int, (0 ≤ i ∧ i < Pn P) ∧ v9 = some (.int (iI (runL 120 (PL P i.toNat) 6 - PL P i.toNat 6))) ∧ w9 = [oX7 xo xi isz (a 0) xh xs sv xr xt xl xa xc, oX2 xa (A9 0) (A9 1) (A9 2) (A9 3) (A9 4) (A9 5) (A9 6) (A9 7) (A9 8) (A9 9), oX3 (a 0) (a 1) (a 2) (Pn P), arN X (a 1) 6 b, oX0 (a 2) (a 3) (a 4) (a 5) (Px P) (Pk P), arI X (a 3) 20 (Pa P), arI X (a 4) 20 (Pb P), arI X (a 5) 20 (Pd P)] ++ ((lsW b (PL P)))) 0 0 := by
  refine lo_enter (cc := cX7_interestAhead) (maxL := 2) (ret := (some .int)) (lv := [(0, .ref xo), (1, .int (iI i))]) (by decide) rfl rfl (Nat.le_of_ble_eq_true rfl) ?_
  intro p9 e9 s9 m9 bl9 me9 c9 A9 ls hAe E hRt hLk hK hl hw
  have Ex := E.1
  have Eb := E.2.1
  obtain ⟨⟨hn0, hn1⟩, ⟨hx0, hx1⟩, ⟨hk0, hk1⟩, hL⟩ := id hPI
  refine lv_aload_n Ex Eb dX7_interestAhead_0 rfl (lv_at hl 0 rfl) ?_
  refine lv_aload_n Ex Eb dX7_interestAhead_1 rfl (lv_at hl 0 rfl) ?_
  refine lv_iload_n Ex Eb dX7_interestAhead_2 rfl (lv_at hl 1 rfl) ?_
  refine lo_callV (q0 := 0) (rest := [.ref xo]) E hK hw (kX7_loanAtn l X xo xi xh xs xr xt xl xa xc isz sv a b P i (by omega) (by omega) (by omega)) (cwV 1 E.2.2.2.2 gX7_interestAhead_X7_loanAt rfl rfl rfl (by decide +kernel) ⟨Nat.le_of_ble_eq_true rfl, Nat.le_of_ble_eq_true rfl⟩) rfl rfl [0, 2, 3, 4, 5, 6, 7, 8, 9, 10, 11, 12, 13] rfl (by decide) hl.1 rfl rfl (Nat.le_of_ble_eq_true rfl) dX7_interestAhead_3 ⟨Nat.le_of_ble_eq_true rfl, Nat.le_of_ble_eq_true rfl⟩ (fun v w1 H locs hq hw => ?_)
  obtain ⟨q3_0, rfl, rfl⟩ := hq
  have hw : lo_Wd X ([oX7 xo xi isz (a 0) xh xs sv xr xt xl xa xc, oX2 xa (A0 0) (A0 1) (A0 2) (A0 3) (A0 4) (A0 5) (A0 6) (A0 7) (A0 8) (A0 9), oX3 (a 0) (a 1) (a 2) (Pn P), arN X (a 1) 6 b, oX0 (a 2) (a 3) (a 4) (a 5) (Px P) (Pk P), arI X (a 3) 20 (Pa P), arI X (a 4) 20 (Pb P), arI X (a 5) 20 (Pd P)] ++ ((lsW b (PL P)))) A9 s9.heap H locs := hw
  refine W.eq (g2 := F0 m9 6 ls [.ref (b i.toNat), .ref xo]) rfl ?_
  have hLi := hL i.toNat (by omega)
  obtain ⟨⟨hb0, hb1⟩, ⟨hr0, hr1⟩, ⟨hc0, hc1⟩, ⟨hm0, hm1⟩, ⟨hi0, hi1⟩, ⟨hs0, hs1⟩, hop, hcl⟩ := id hLi
  refine lo_callV (q0 := 0) (rest := []) E hK hw (kX7_interestToCome l X xo xi xh xs xr xt xl xa xc isz sv (a 0) (b i.toNat) A0 (PL P i.toNat) (hLi)) (cwV 1 E.2.2.2.2 gX7_interestAhead_X7_interestToCome rfl rfl rfl (by decide +kernel) ⟨Nat.le_of_ble_eq_true rfl, Nat.le_of_ble_eq_true rfl⟩) rfl rfl [0, 1, 8 + i.toNat] (lo_ps_cons rfl (lo_ps_cons rfl (lo_ps_cons (lsW_atE (k := 8) rfl (by omega)) lo_ps_nil))) (by simp [va_nd]; try omega) hl.1 rfl rfl (Nat.le_of_ble_eq_true rfl) dX7_interestAhead_6 ⟨Nat.le_of_ble_eq_true rfl, Nat.le_of_ble_eq_true rfl⟩ (fun v w1 H locs hq hw => ?_)
  obtain ⟨rfl, rfl⟩ := hq
  have hw := lo_cast (lsW_k (k := 8) (ps := [0, 1]) (w1 := [oX7 xo xi isz (a 0) xh xs sv xr xt xl xa xc, oX2 xa (runL 120 (PL P i.toNat) 0) (runL 120 (PL P i.toNat) 1) (runL 120 (PL P i.toNat) 2) (runL 120 (PL P i.toNat) 3) (runL 120 (PL P i.toNat) 4) (runL 120 (PL P i.toNat) 5) (runL 120 (PL P i.toNat) 6) (runL 120 (PL P i.toNat) 7) (runL 120 (PL P i.toNat) 8) (runL 120 (PL P i.toNat) 9)]) rfl (by omega) (by decide) rfl rfl) hw
  have hw : lo_Wd X ([oX7 xo xi isz (a 0) xh xs sv xr xt xl xa xc, oX2 xa (runL 120 (PL P i.toNat) 0) (runL 120 (PL P i.toNat) 1) (runL 120 (PL P i.toNat) 2) (runL 120 (PL P i.toNat) 3) (runL 120 (PL P i.toNat) 4) (runL 120 (PL P i.toNat) 5) (runL 120 (PL P i.toNat) 6) (runL 120 (PL P i.toNat) 7) (runL 120 (PL P i.toNat) 8) (runL 120 (PL P i.toNat) 9), oX3 (a 0) (a 1) (a 2) (Pn P), arN X (a 1) 6 b, oX0 (a 2) (a 3) (a 4) (a 5) (Px P) (Pk P), arI X (a 3) 20 (Pa P), arI X (a 4) 20 (Pb P), arI X (a 5) 20 (Pd P)] ++ ((lsW b (PL P)))) A9 s9.heap H locs := hw
  refine W.eq (g2 := F0 m9 9 ls [.int (iI (runL 120 (PL P i.toNat) 6 - (PL P i.toNat) 6))]) rfl ?_
  exact lo_iret E hRt hLk hK hAe hw dX7_interestAhead_9 rfl ⟨runL 120 (PL P i.toNat), (by omega), rfl, rfl⟩
set_option maxHeartbeats 4000000 in
set_option maxRecDepth 100000 in
theorem kX7_lastDuen (l : Launch) (X : KX) (xo xi xh xs xr xt xl xa xc : Nat) (isz sv : Int) (A0 : Nat → Int) (a b : Nat → Nat) (P : PT) (i : Int) (hPI : PI P) (hi9 : i32 i) (hin : 0 ≤ i ∧ i < Pn P) : CM l X yX7_lastDue wsX7_lastDue ({ frames := 7, cells := 0, slots := 0, locals := 121 }) [.ref xo, .int (iI i)] ([oX7 xo xi isz (a 0) xh xs sv xr xt xl xa xc, oX2 xa (A0 0) (A0 1) (A0 2) (A0 3) (A0 4) (A0 5) (A0 6) (A0 7) (A0 8) (A0 9), oX3 (a 0) (a 1) (a 2) (Pn P), arN X (a 1) 6 b, oX0 (a 2) (a 3) (a 4) (a 5) (Px P) (Pk P), arI X (a 3) 20 (Pa P), arI X (a 4) 20 (Pb P), arI X (a 5) 20 (Pd P)] ++ ((lsW b (PL P)))) (fun v9 w9 => ∃ A9 : Nat → Int, (0 ≤ i ∧ i < Pn P) ∧ v9 = some (.int (iI (lastL 120 (PL P i.toNat) 0))) ∧ w9 = [oX7 xo xi isz (a 0) xh xs sv xr xt xl xa xc, oX2 xa (A9 0) (A9 1) (A9 2) (A9 3) (A9 4) (A9 5) (A9 6) (A9 7) (A9 8) (A9 9), oX3 (a 0) (a 1) (a 2) (Pn P), arN X (a 1) 6 b, oX0 (a 2) (a 3) (a 4) (a 5) (Px P) (Pk P), arI X (a 3) 20 (Pa P), arI X (a 4) 20 (Pb P), arI X (a 5) 20 (Pd P)] ++ ((lsW b (PL P)))) 0 0 := by
  refine lo_enter (cc := cX7_lastDue) (maxL := 2) (ret := (some .int)) (lv := [(0, .ref xo), (1, .int (iI i))]) (by decide) rfl rfl (Nat.le_of_ble_eq_true rfl) ?_
  intro p9 e9 s9 m9 bl9 me9 c9 A9 ls hAe E hRt hLk hK hl hw
  have Ex := E.1
  have Eb := E.2.1
  obtain ⟨⟨hn0, hn1⟩, ⟨hx0, hx1⟩, ⟨hk0, hk1⟩, hL⟩ := id hPI
  refine lv_aload_n Ex Eb dX7_lastDue_0 rfl (lv_at hl 0 rfl) ?_
  refine lv_aload_n Ex Eb dX7_lastDue_1 rfl (lv_at hl 0 rfl) ?_
  refine lv_iload_n Ex Eb dX7_lastDue_2 rfl (lv_at hl 1 rfl) ?_
  refine lo_callV (q0 := 0) (rest := [.ref xo]) E hK hw (kX7_loanAtn l X xo xi xh xs xr xt xl xa xc isz sv a b P i (by omega) (by omega) (by omega)) (cwV 1 E.2.2.2.2 gX7_lastDue_X7_loanAt rfl rfl rfl (by decide +kernel) ⟨Nat.le_of_ble_eq_true rfl, Nat.le_of_ble_eq_true rfl⟩) rfl rfl [0, 2, 3, 4, 5, 6, 7, 8, 9, 10, 11, 12, 13] rfl (by decide) hl.1 rfl rfl (Nat.le_of_ble_eq_true rfl) dX7_lastDue_3 ⟨Nat.le_of_ble_eq_true rfl, Nat.le_of_ble_eq_true rfl⟩ (fun v w1 H locs hq hw => ?_)
  obtain ⟨q3_0, rfl, rfl⟩ := hq
  have hw : lo_Wd X ([oX7 xo xi isz (a 0) xh xs sv xr xt xl xa xc, oX2 xa (A0 0) (A0 1) (A0 2) (A0 3) (A0 4) (A0 5) (A0 6) (A0 7) (A0 8) (A0 9), oX3 (a 0) (a 1) (a 2) (Pn P), arN X (a 1) 6 b, oX0 (a 2) (a 3) (a 4) (a 5) (Px P) (Pk P), arI X (a 3) 20 (Pa P), arI X (a 4) 20 (Pb P), arI X (a 5) 20 (Pd P)] ++ ((lsW b (PL P)))) A9 s9.heap H locs := hw
  refine W.eq (g2 := F0 m9 6 ls [.ref (b i.toNat), .ref xo]) rfl ?_
  have hLi := hL i.toNat (by omega)
  obtain ⟨⟨hb0, hb1⟩, ⟨hr0, hr1⟩, ⟨hc0, hc1⟩, ⟨hm0, hm1⟩, ⟨hi0, hi1⟩, ⟨hs0, hs1⟩, hop, hcl⟩ := id hLi
  refine lo_callV (q0 := 0) (rest := []) E hK hw (kX7_lastPayment l X xo xi xh xs xr xt xl xa xc isz sv (a 0) (b i.toNat) A0 (PL P i.toNat) (hLi)) (cwV 1 E.2.2.2.2 gX7_lastDue_X7_lastPayment rfl rfl rfl (by decide +kernel) ⟨Nat.le_of_ble_eq_true rfl, Nat.le_of_ble_eq_true rfl⟩) rfl rfl [0, 1, 8 + i.toNat] (lo_ps_cons rfl (lo_ps_cons rfl (lo_ps_cons (lsW_atE (k := 8) rfl (by omega)) lo_ps_nil))) (by simp [va_nd]; try omega) hl.1 rfl rfl (Nat.le_of_ble_eq_true rfl) dX7_lastDue_6 ⟨Nat.le_of_ble_eq_true rfl, Nat.le_of_ble_eq_true rfl⟩ (fun v w1 H locs hq hw => ?_)
  obtain ⟨rfl, rfl⟩ := hq
  have hw := lo_cast (lsW_k (k := 8) (ps := [0, 1]) (w1 := [oX7 xo xi isz (a 0) xh xs sv xr xt xl xa xc, oX2 xa (runL 120 (PL P i.toNat) 0) (runL 120 (PL P i.toNat) 1) (runL 120 (PL P i.toNat) 2) (runL 120 (PL P i.toNat) 3) (runL 120 (PL P i.toNat) 4) (runL 120 (PL P i.toNat) 5) (runL 120 (PL P i.toNat) 6) (runL 120 (PL P i.toNat) 7) (runL 120 (PL P i.toNat) 8) (runL 120 (PL P i.toNat) 9)]) rfl (by omega) (by decide) rfl rfl) hw
  have hw : lo_Wd X ([oX7 xo xi isz (a 0) xh xs sv xr xt xl xa xc, oX2 xa (runL 120 (PL P i.toNat) 0) (runL 120 (PL P i.toNat) 1) (runL 120 (PL P i.toNat) 2) (runL 120 (PL P i.toNat) 3) (runL 120 (PL P i.toNat) 4) (runL 120 (PL P i.toNat) 5) (runL 120 (PL P i.toNat) 6) (runL 120 (PL P i.toNat) 7) (runL 120 (PL P i.toNat) 8) (runL 120 (PL P i.toNat) 9), oX3 (a 0) (a 1) (a 2) (Pn P), arN X (a 1) 6 b, oX0 (a 2) (a 3) (a 4) (a 5) (Px P) (Pk P), arI X (a 3) 20 (Pa P), arI X (a 4) 20 (Pb P), arI X (a 5) 20 (Pd P)] ++ ((lsW b (PL P)))) A9 s9.heap H locs := hw
  refine W.eq (g2 := F0 m9 9 ls [.int (iI (lastL 120 (PL P i.toNat) 0))]) rfl ?_
  exact lo_iret E hRt hLk hK hAe hw dX7_lastDue_9 rfl ⟨runL 120 (PL P i.toNat), (by omega), rfl, rfl⟩
set_option maxHeartbeats 4000000 in
set_option maxRecDepth 100000 in
theorem kX7_interestOfPaymentn (l : Launch) (X : KX) (xo xi xh xs xr xt xl xa xc : Nat) (isz sv : Int) (A0 : Nat → Int) (a b : Nat → Nat) (P : PT) (i k : Int) (hPI : PI P) (hi9 : i32 i) (hk9 : i32 k) (hin : 0 ≤ i ∧ i < Pn P) (hkk : 1 ≤ k ∧ k ≤ 120) : CM l X yX7_interestOfPayment wsX7_interestOfPayment ({ frames := 7, cells := 0, slots := 0, locals := 122 }) [.ref xo, .int (iI i), .int (iI k)] ([oX7 xo xi isz (a 0) xh xs sv xr xt xl xa xc, oX2 xa (A0 0) (A0 1) (A0 2) (A0 3) (A0 4) (A0 5) (A0 6) (A0 7) (A0 8) (A0 9), oX3 (a 0) (a 1) (a 2) (Pn P), arN X (a 1) 6 b, oX0 (a 2) (a 3) (a 4) (a 5) (Px P) (Pk P), arI X (a 3) 20 (Pa P), arI X (a 4) 20 (Pb P), arI X (a 5) 20 (Pd P)] ++ ((lsW b (PL P)))) (fun v9 w9 => ∃ A9 : Nat → Int, ∃ z : Int, (0 ≤ i ∧ i < Pn P) ∧ (1 ≤ k ∧ k ≤ 120) ∧ ((0 < (runL (k - 1).toNat (PL P i.toNat)) 1 ∧ z = fI ((runL (k - 1).toNat (PL P i.toNat)) 1) ((runL (k - 1).toNat (PL P i.toNat)) 2) ((runL (k - 1).toNat (PL P i.toNat)) 5)) ∨ ((runL (k - 1).toNat (PL P i.toNat)) 1 ≤ 0 ∧ z = -1)) ∧ v9 = some (.int (iI z)) ∧ w9 = [oX7 xo xi isz (a 0) xh xs sv xr xt xl xa xc, oX2 xa (A9 0) (A9 1) (A9 2) (A9 3) (A9 4) (A9 5) (A9 6) (A9 7) (A9 8) (A9 9), oX3 (a 0) (a 1) (a 2) (Pn P), arN X (a 1) 6 b, oX0 (a 2) (a 3) (a 4) (a 5) (Px P) (Pk P), arI X (a 3) 20 (Pa P), arI X (a 4) 20 (Pb P), arI X (a 5) 20 (Pd P)] ++ ((lsW b (PL P)))) 0 0 := by
  refine lo_enter (cc := cX7_interestOfPayment) (maxL := 3) (ret := (some .int)) (lv := [(0, .ref xo), (1, .int (iI i)), (2, .int (iI k))]) (by decide) rfl rfl (Nat.le_of_ble_eq_true rfl) ?_
  intro p9 e9 s9 m9 bl9 me9 c9 A9 ls hAe E hRt hLk hK hl hw
  have Ex := E.1
  have Eb := E.2.1
  have huRX7 : ∀ w ∈ u_ws RX7 TX7 11, w ∈ wsX7_interestOfPayment := by decide +kernel
  have hf55 : (Cond.fieldLink RX7 55 "LoanSchedule" "aheadLoan" "LLoanSchedule$Loan;").before _ s9 = true := E.2.2.2.2 _ (List.mem_of_getElem? (i := 1) rfl)
  obtain ⟨⟨hn0, hn1⟩, ⟨hx0, hx1⟩, ⟨hk0, hk1⟩, hL⟩ := id hPI
  refine lv_aload_n Ex Eb dX7_interestOfPayment_0 rfl (lv_at hl 0 rfl) ?_
  refine lo_get E hK hw huRX7 9 hf55 rfl 0 rfl rfl (by decide) (v := .ref xa) rfl dX7_interestOfPayment_1 ?_
  refine lv_aload_n Ex Eb dX7_interestOfPayment_4 rfl (lv_at hl 0 rfl) ?_
  refine lv_iload_n Ex Eb dX7_interestOfPayment_5 rfl (lv_at hl 1 rfl) ?_
  refine lo_callV (q0 := 0) (rest := [.ref xa]) E hK hw (kX7_loanAtn l X xo xi xh xs xr xt xl xa xc isz sv a b P i (by omega) (by omega) (by omega)) (cwV 1 E.2.2.2.2 gX7_interestOfPayment_X7_loanAt rfl rfl rfl (by decide +kernel) ⟨Nat.le_of_ble_eq_true rfl, Nat.le_of_ble_eq_true rfl⟩) rfl rfl [0, 2, 3, 4, 5, 6, 7, 8, 9, 10, 11, 12, 13] rfl (by decide) hl.1 rfl rfl (Nat.le_of_ble_eq_true rfl) dX7_interestOfPayment_6 ⟨Nat.le_of_ble_eq_true rfl, Nat.le_of_ble_eq_true rfl⟩ (fun v w1 H locs hq hw => ?_)
  obtain ⟨q6_0, rfl, rfl⟩ := hq
  have hw : lo_Wd X ([oX7 xo xi isz (a 0) xh xs sv xr xt xl xa xc, oX2 xa (A0 0) (A0 1) (A0 2) (A0 3) (A0 4) (A0 5) (A0 6) (A0 7) (A0 8) (A0 9), oX3 (a 0) (a 1) (a 2) (Pn P), arN X (a 1) 6 b, oX0 (a 2) (a 3) (a 4) (a 5) (Px P) (Pk P), arI X (a 3) 20 (Pa P), arI X (a 4) 20 (Pb P), arI X (a 5) 20 (Pd P)] ++ ((lsW b (PL P)))) A9 s9.heap H locs := hw
  refine W.eq (g2 := F0 m9 9 ls [.ref (b i.toNat), .ref xa]) rfl ?_
  have hLi := hL i.toNat (by omega)
  obtain ⟨⟨hb0, hb1⟩, ⟨hr0, hr1⟩, ⟨hc0, hc1⟩, ⟨hm0, hm1⟩, ⟨hi0, hi1⟩, ⟨hs0, hs1⟩, hop, hcl⟩ := id hLi
  refine lo_callV (q0 := 1) (rest := []) E hK hw (kX2_copyFrom l X xa (b i.toNat) A0 (PL P i.toNat) ) (cwV 1 E.2.2.2.2 gX7_interestOfPayment_X2_copyFrom rfl rfl rfl (by decide +kernel) ⟨Nat.le_of_ble_eq_true rfl, Nat.le_of_ble_eq_true rfl⟩) rfl rfl [1, 8 + i.toNat] (lo_ps_cons rfl (lo_ps_cons (lsW_atE (k := 8) rfl (by omega)) lo_ps_nil)) (by simp [va_nd]; try omega) hl.1 rfl rfl (Nat.le_of_ble_eq_true rfl) dX7_interestOfPayment_9 ⟨Nat.le_of_ble_eq_true rfl, Nat.le_of_ble_eq_true rfl⟩ (fun v w1 H locs hq hw => ?_)
  obtain ⟨rfl, rfl⟩ := hq
  have hw := lo_cast (lsW_k (k := 8) (ps := [1]) (w1 := [oX2 xa (PL P i.toNat 0) (PL P i.toNat 1) (PL P i.toNat 2) (PL P i.toNat 3) (PL P i.toNat 4) (PL P i.toNat 5) (PL P i.toNat 6) (PL P i.toNat 7) (PL P i.toNat 8) (PL P i.toNat 9)]) rfl (by omega) (by decide) rfl rfl) hw
  have hw : lo_Wd X ([oX7 xo xi isz (a 0) xh xs sv xr xt xl xa xc, oX2 xa (PL P i.toNat 0) (PL P i.toNat 1) (PL P i.toNat 2) (PL P i.toNat 3) (PL P i.toNat 4) (PL P i.toNat 5) (PL P i.toNat 6) (PL P i.toNat 7) (PL P i.toNat 8) (PL P i.toNat 9), oX3 (a 0) (a 1) (a 2) (Pn P), arN X (a 1) 6 b, oX0 (a 2) (a 3) (a 4) (a 5) (Px P) (Pk P), arI X (a 3) 20 (Pa P), arI X (a 4) 20 (Pb P), arI X (a 5) 20 (Pd P)] ++ ((lsW b (PL P)))) A9 s9.heap H locs := hw
  refine W.eq (g2 := F0 m9 12 ls []) rfl ?_
  refine lv_iload_n Ex Eb dX7_interestOfPayment_12 rfl (lv_at hl 2 rfl) ?_
  refine lv_iconst (v := iI 1) Ex Eb dX7_interestOfPayment_13 rfl ?_
  refine lv_bipush (v := iI 120) Ex Eb dX7_interestOfPayment_14 rfl ?_
  refine lo_callS (rest := []) E hK hw (kX7_requireRangen l X k 1 120 (by omega) (by omega) (by omega) (by omega)) (cwS 3 E.2.2.2.2 gX7_interestOfPayment_X7_requireRange rfl rfl rfl (by decide +kernel) ⟨Nat.le_of_ble_eq_true rfl, Nat.le_of_ble_eq_true rfl⟩) [] rfl (by decide) hl.1 rfl rfl (Nat.le_of_ble_eq_true rfl) dX7_interestOfPayment_16 ⟨Nat.le_of_ble_eq_true rfl, Nat.le_of_ble_eq_true rfl⟩ (fun v w1 H locs hq hw => ?_)
  obtain ⟨q16_0, rfl, rfl⟩ := hq
  have hw : lo_Wd X ([oX7 xo xi isz (a 0) xh xs sv xr xt xl xa xc, oX2 xa (PL P i.toNat 0) (PL P i.toNat 1) (PL P i.toNat 2) (PL P i.toNat 3) (PL P i.toNat 4) (PL P i.toNat 5) (PL P i.toNat 6) (PL P i.toNat 7) (PL P i.toNat 8) (PL P i.toNat 9), oX3 (a 0) (a 1) (a 2) (Pn P), arN X (a 1) 6 b, oX0 (a 2) (a 3) (a 4) (a 5) (Px P) (Pk P), arI X (a 3) 20 (Pa P), arI X (a 4) 20 (Pb P), arI X (a 5) 20 (Pd P)] ++ ((lsW b (PL P)))) A9 s9.heap H locs := hw
  refine W.eq (g2 := F0 m9 19 ls []) rfl ?_
  refine lv_aload_n Ex Eb dX7_interestOfPayment_19 rfl (lv_at hl 0 rfl) ?_
  refine lo_get E hK hw huRX7 9 hf55 rfl 0 rfl rfl (by decide) (v := .ref xa) rfl dX7_interestOfPayment_20 ?_
  refine lv_iload_n Ex Eb dX7_interestOfPayment_23 rfl (lv_at hl 2 rfl) ?_
  refine lv_iconst (v := iI 1) Ex Eb dX7_interestOfPayment_24 rfl ?_
  refine lo_isub E dX7_interestOfPayment_25 ?_
  refine lo_callV (q0 := 1) (rest := []) E hK hw (kX2_settleMonths l X xa (PL P i.toNat) (k - 1) (hLi) (by omega)) (cwV 1 E.2.2.2.2 gX7_interestOfPayment_X2_settleMonths rfl rfl rfl (by decide +kernel) ⟨Nat.le_of_ble_eq_true rfl, Nat.le_of_ble_eq_true rfl⟩) rfl rfl [1] rfl (by decide) hl.1 rfl rfl (Nat.le_of_ble_eq_true rfl) dX7_interestOfPayment_26 ⟨Nat.le_of_ble_eq_true rfl, Nat.le_of_ble_eq_true rfl⟩ (fun v w1 H locs hq hw => ?_)
  obtain ⟨rfl, rfl⟩ := hq
  have hw : lo_Wd X ([oX7 xo xi isz (a 0) xh xs sv xr xt xl xa xc, oX2 xa (runL (k - 1).toNat (PL P i.toNat) 0) (runL (k - 1).toNat (PL P i.toNat) 1) (runL (k - 1).toNat (PL P i.toNat) 2) (runL (k - 1).toNat (PL P i.toNat) 3) (runL (k - 1).toNat (PL P i.toNat) 4) (runL (k - 1).toNat (PL P i.toNat) 5) (runL (k - 1).toNat (PL P i.toNat) 6) (runL (k - 1).toNat (PL P i.toNat) 7) (runL (k - 1).toNat (PL P i.toNat) 8) (runL (k - 1).toNat (PL P i.toNat) 9), oX3 (a 0) (a 1) (a 2) (Pn P), arN X (a 1) 6 b, oX0 (a 2) (a 3) (a 4) (a 5) (Px P) (Pk P), arI X (a 3) 20 (Pa P), arI X (a 4) 20 (Pb P), arI X (a 5) 20 (Pd P)] ++ ((lsW b (PL P)))) A9 s9.heap H locs := hw
  refine W.eq (g2 := F0 m9 29 ls [.int (iI (lastL (k - 1).toNat (PL P i.toNat) 0))]) rfl ?_
  refine lv_pop Ex Eb dX7_interestOfPayment_29 rfl ?_
  have hRL := runL_LI (k - 1).toNat (PL P i.toNat) hLi
  obtain ⟨⟨jb0, jb1⟩, ⟨jr0, jr1⟩, ⟨jc0, jc1⟩, ⟨jm0, jm1⟩, ⟨ji0, ji1⟩, ⟨js0, js1⟩, jop, jcl⟩ := id hRL
  refine lv_aload_n Ex Eb dX7_interestOfPayment_30 rfl (lv_at hl 0 rfl) ?_
  refine lo_get E hK hw huRX7 9 hf55 rfl 0 rfl rfl (by decide) (v := .ref xa) rfl dX7_interestOfPayment_31 ?_
  refine lo_callV (q0 := 1) (rest := []) E hK hw (kX2_isRunning l X xa (runL (k - 1).toNat (PL P i.toNat)) (by omega)) (cwV 0 E.2.2.2.2 gX7_interestOfPayment_X2_isRunning rfl rfl rfl (by decide +kernel) ⟨Nat.le_of_ble_eq_true rfl, Nat.le_of_ble_eq_true rfl⟩) rfl rfl [1] rfl (by decide) hl.1 rfl rfl (Nat.le_of_ble_eq_true rfl) dX7_interestOfPayment_34 ⟨Nat.le_of_ble_eq_true rfl, Nat.le_of_ble_eq_true rfl⟩ (fun v w1 H locs hq hw => ?_)
  obtain ⟨r1, q34_0, rfl, rfl⟩ := hq
  have hw : lo_Wd X ([oX7 xo xi isz (a 0) xh xs sv xr xt xl xa xc, oX2 xa (runL (k - 1).toNat (PL P i.toNat) 0) (runL (k - 1).toNat (PL P i.toNat) 1) (runL (k - 1).toNat (PL P i.toNat) 2) (runL (k - 1).toNat (PL P i.toNat) 3) (runL (k - 1).toNat (PL P i.toNat) 4) (runL (k - 1).toNat (PL P i.toNat) 5) (runL (k - 1).toNat (PL P i.toNat) 6) (runL (k - 1).toNat (PL P i.toNat) 7) (runL (k - 1).toNat (PL P i.toNat) 8) (runL (k - 1).toNat (PL P i.toNat) 9), oX3 (a 0) (a 1) (a 2) (Pn P), arN X (a 1) 6 b, oX0 (a 2) (a 3) (a 4) (a 5) (Px P) (Pk P), arI X (a 3) 20 (Pa P), arI X (a 4) 20 (Pb P), arI X (a 5) 20 (Pd P)] ++ ((lsW b (PL P)))) A9 s9.heap H locs := hw
  refine W.eq (g2 := F0 m9 37 ls [.int (iI r1)]) rfl ?_
  refine lo_if_eq (tgt := 50) E dX7_interestOfPayment_37 (by decide) (by omega) (fun c2 => ?_) (fun c2 => ?_)
  · skip
    refine lv_iconst (v := iI (-1)) Ex Eb dX7_interestOfPayment_50 rfl ?_
    exact lo_iret E hRt hLk hK hAe hw dX7_interestOfPayment_51 rfl ⟨runL (k - 1).toNat (PL P i.toNat), -1, (by omega), (by omega), (by first | exact Or.inl ⟨by omega, rfl⟩ | exact Or.inr ⟨by omega, rfl⟩), rfl, rfl⟩
  · skip
    refine lv_aload_n Ex Eb dX7_interestOfPayment_40 rfl (lv_at hl 0 rfl) ?_
    refine lo_get E hK hw huRX7 9 hf55 rfl 0 rfl rfl (by decide) (v := .ref xa) rfl dX7_interestOfPayment_41 ?_
    refine lo_callV (q0 := 1) (rest := []) E hK hw (kX2_nextInterest l X xa (runL (k - 1).toNat (PL P i.toNat)) (by omega) (by omega) (by omega) (by omega) (by omega) (by omega)) (cwV 0 E.2.2.2.2 gX7_interestOfPayment_X2_nextInterest rfl rfl rfl (by decide +kernel) ⟨Nat.le_of_ble_eq_true rfl, Nat.le_of_ble_eq_true rfl⟩) rfl rfl [1] rfl (by decide) hl.1 rfl rfl (Nat.le_of_ble_eq_true rfl) dX7_interestOfPayment_44 ⟨Nat.le_of_ble_eq_true rfl, Nat.le_of_ble_eq_true rfl⟩ (fun v w1 H locs hq hw => ?_)
    obtain ⟨rfl, rfl⟩ := hq
    have hw : lo_Wd X ([oX7 xo xi isz (a 0) xh xs sv xr xt xl xa xc, oX2 xa (runL (k - 1).toNat (PL P i.toNat) 0) (runL (k - 1).toNat (PL P i.toNat) 1) (runL (k - 1).toNat (PL P i.toNat) 2) (runL (k - 1).toNat (PL P i.toNat) 3) (runL (k - 1).toNat (PL P i.toNat) 4) (runL (k - 1).toNat (PL P i.toNat) 5) (runL (k - 1).toNat (PL P i.toNat) 6) (runL (k - 1).toNat (PL P i.toNat) 7) (runL (k - 1).toNat (PL P i.toNat) 8) (runL (k - 1).toNat (PL P i.toNat) 9), oX3 (a 0) (a 1) (a 2) (Pn P), arN X (a 1) 6 b, oX0 (a 2) (a 3) (a 4) (a 5) (Px P) (Pk P), arI X (a 3) 20 (Pa P), arI X (a 4) 20 (Pb P), arI X (a 5) 20 (Pd P)] ++ ((lsW b (PL P)))) A9 s9.heap H locs := hw
    refine W.eq (g2 := F0 m9 47 ls [.int (iI (fI (runL (k - 1).toNat (PL P i.toNat) 1) (runL (k - 1).toNat (PL P i.toNat) 2) (runL (k - 1).toNat (PL P i.toNat) 5)))]) rfl ?_
    refine lv_goto (tgt := 51) Ex Eb dX7_interestOfPayment_47 (by decide) ?_
    exact lo_iret E hRt hLk hK hAe hw dX7_interestOfPayment_51 rfl ⟨runL (k - 1).toNat (PL P i.toNat), fI (runL (k - 1).toNat (PL P i.toNat) 1) (runL (k - 1).toNat (PL P i.toNat) 2) (runL (k - 1).toNat (PL P i.toNat) 5), (by omega), (by omega), (by first | exact Or.inl ⟨by omega, rfl⟩ | exact Or.inr ⟨by omega, rfl⟩), rfl, rfl⟩
set_option maxHeartbeats 4000000 in
set_option maxRecDepth 100000 in
theorem kX7_amountOfPaymentn (l : Launch) (X : KX) (xo xi xh xs xr xt xl xa xc : Nat) (isz sv : Int) (A0 : Nat → Int) (a b : Nat → Nat) (P : PT) (i k : Int) (hPI : PI P) (hi9 : i32 i) (hk9 : i32 k) (hin : 0 ≤ i ∧ i < Pn P) (hkk : 1 ≤ k ∧ k ≤ 120) : CM l X yX7_amountOfPayment wsX7_amountOfPayment ({ frames := 7, cells := 0, slots := 0, locals := 122 }) [.ref xo, .int (iI i), .int (iI k)] ([oX7 xo xi isz (a 0) xh xs sv xr xt xl xa xc, oX2 xa (A0 0) (A0 1) (A0 2) (A0 3) (A0 4) (A0 5) (A0 6) (A0 7) (A0 8) (A0 9), oX3 (a 0) (a 1) (a 2) (Pn P), arN X (a 1) 6 b, oX0 (a 2) (a 3) (a 4) (a 5) (Px P) (Pk P), arI X (a 3) 20 (Pa P), arI X (a 4) 20 (Pb P), arI X (a 5) 20 (Pd P)] ++ ((lsW b (PL P)))) (fun v9 w9 => ∃ A9 : Nat → Int, ∃ z : Int, (0 ≤ i ∧ i < Pn P) ∧ (1 ≤ k ∧ k ≤ 120) ∧ ((0 < (runL (k - 1).toNat (PL P i.toNat)) 1 ∧ z = dueL (runL (k - 1).toNat (PL P i.toNat))) ∨ ((runL (k - 1).toNat (PL P i.toNat)) 1 ≤ 0 ∧ z = -1)) ∧ v9 = some (.int (iI z)) ∧ w9 = [oX7 xo xi isz (a 0) xh xs sv xr xt xl xa xc, oX2 xa (A9 0) (A9 1) (A9 2) (A9 3) (A9 4) (A9 5) (A9 6) (A9 7) (A9 8) (A9 9), oX3 (a 0) (a 1) (a 2) (Pn P), arN X (a 1) 6 b, oX0 (a 2) (a 3) (a 4) (a 5) (Px P) (Pk P), arI X (a 3) 20 (Pa P), arI X (a 4) 20 (Pb P), arI X (a 5) 20 (Pd P)] ++ ((lsW b (PL P)))) 0 0 := by
  refine lo_enter (cc := cX7_amountOfPayment) (maxL := 3) (ret := (some .int)) (lv := [(0, .ref xo), (1, .int (iI i)), (2, .int (iI k))]) (by decide) rfl rfl (Nat.le_of_ble_eq_true rfl) ?_
  intro p9 e9 s9 m9 bl9 me9 c9 A9 ls hAe E hRt hLk hK hl hw
  have Ex := E.1
  have Eb := E.2.1
  have huRX7 : ∀ w ∈ u_ws RX7 TX7 11, w ∈ wsX7_amountOfPayment := by decide +kernel
  have hf55 : (Cond.fieldLink RX7 55 "LoanSchedule" "aheadLoan" "LLoanSchedule$Loan;").before _ s9 = true := E.2.2.2.2 _ (List.mem_of_getElem? (i := 1) rfl)
  obtain ⟨⟨hn0, hn1⟩, ⟨hx0, hx1⟩, ⟨hk0, hk1⟩, hL⟩ := id hPI
  refine lv_aload_n Ex Eb dX7_amountOfPayment_0 rfl (lv_at hl 0 rfl) ?_
  refine lo_get E hK hw huRX7 9 hf55 rfl 0 rfl rfl (by decide) (v := .ref xa) rfl dX7_amountOfPayment_1 ?_
  refine lv_aload_n Ex Eb dX7_amountOfPayment_4 rfl (lv_at hl 0 rfl) ?_
  refine lv_iload_n Ex Eb dX7_amountOfPayment_5 rfl (lv_at hl 1 rfl) ?_
  refine lo_callV (q0 := 0) (rest := [.ref xa]) E hK hw (kX7_loanAtn l X xo xi xh xs xr xt xl xa xc isz sv a b P i (by omega) (by omega) (by omega)) (cwV 1 E.2.2.2.2 gX7_amountOfPayment_X7_loanAt rfl rfl rfl (by decide +kernel) ⟨Nat.le_of_ble_eq_true rfl, Nat.le_of_ble_eq_true rfl⟩) rfl rfl [0, 2, 3, 4, 5, 6, 7, 8, 9, 10, 11, 12, 13] rfl (by decide) hl.1 rfl rfl (Nat.le_of_ble_eq_true rfl) dX7_amountOfPayment_6 ⟨Nat.le_of_ble_eq_true rfl, Nat.le_of_ble_eq_true rfl⟩ (fun v w1 H locs hq hw => ?_)
  obtain ⟨q6_0, rfl, rfl⟩ := hq
  have hw : lo_Wd X ([oX7 xo xi isz (a 0) xh xs sv xr xt xl xa xc, oX2 xa (A0 0) (A0 1) (A0 2) (A0 3) (A0 4) (A0 5) (A0 6) (A0 7) (A0 8) (A0 9), oX3 (a 0) (a 1) (a 2) (Pn P), arN X (a 1) 6 b, oX0 (a 2) (a 3) (a 4) (a 5) (Px P) (Pk P), arI X (a 3) 20 (Pa P), arI X (a 4) 20 (Pb P), arI X (a 5) 20 (Pd P)] ++ ((lsW b (PL P)))) A9 s9.heap H locs := hw
  refine W.eq (g2 := F0 m9 9 ls [.ref (b i.toNat), .ref xa]) rfl ?_
  have hLi := hL i.toNat (by omega)
  obtain ⟨⟨hb0, hb1⟩, ⟨hr0, hr1⟩, ⟨hc0, hc1⟩, ⟨hm0, hm1⟩, ⟨hi0, hi1⟩, ⟨hs0, hs1⟩, hop, hcl⟩ := id hLi
  refine lo_callV (q0 := 1) (rest := []) E hK hw (kX2_copyFrom l X xa (b i.toNat) A0 (PL P i.toNat) ) (cwV 1 E.2.2.2.2 gX7_amountOfPayment_X2_copyFrom rfl rfl rfl (by decide +kernel) ⟨Nat.le_of_ble_eq_true rfl, Nat.le_of_ble_eq_true rfl⟩) rfl rfl [1, 8 + i.toNat] (lo_ps_cons rfl (lo_ps_cons (lsW_atE (k := 8) rfl (by omega)) lo_ps_nil)) (by simp [va_nd]; try omega) hl.1 rfl rfl (Nat.le_of_ble_eq_true rfl) dX7_amountOfPayment_9 ⟨Nat.le_of_ble_eq_true rfl, Nat.le_of_ble_eq_true rfl⟩ (fun v w1 H locs hq hw => ?_)
  obtain ⟨rfl, rfl⟩ := hq
  have hw := lo_cast (lsW_k (k := 8) (ps := [1]) (w1 := [oX2 xa (PL P i.toNat 0) (PL P i.toNat 1) (PL P i.toNat 2) (PL P i.toNat 3) (PL P i.toNat 4) (PL P i.toNat 5) (PL P i.toNat 6) (PL P i.toNat 7) (PL P i.toNat 8) (PL P i.toNat 9)]) rfl (by omega) (by decide) rfl rfl) hw
  have hw : lo_Wd X ([oX7 xo xi isz (a 0) xh xs sv xr xt xl xa xc, oX2 xa (PL P i.toNat 0) (PL P i.toNat 1) (PL P i.toNat 2) (PL P i.toNat 3) (PL P i.toNat 4) (PL P i.toNat 5) (PL P i.toNat 6) (PL P i.toNat 7) (PL P i.toNat 8) (PL P i.toNat 9), oX3 (a 0) (a 1) (a 2) (Pn P), arN X (a 1) 6 b, oX0 (a 2) (a 3) (a 4) (a 5) (Px P) (Pk P), arI X (a 3) 20 (Pa P), arI X (a 4) 20 (Pb P), arI X (a 5) 20 (Pd P)] ++ ((lsW b (PL P)))) A9 s9.heap H locs := hw
  refine W.eq (g2 := F0 m9 12 ls []) rfl ?_
  refine lv_iload_n Ex Eb dX7_amountOfPayment_12 rfl (lv_at hl 2 rfl) ?_
  refine lv_iconst (v := iI 1) Ex Eb dX7_amountOfPayment_13 rfl ?_
  refine lv_bipush (v := iI 120) Ex Eb dX7_amountOfPayment_14 rfl ?_
  refine lo_callS (rest := []) E hK hw (kX7_requireRangen l X k 1 120 (by omega) (by omega) (by omega) (by omega)) (cwS 3 E.2.2.2.2 gX7_amountOfPayment_X7_requireRange rfl rfl rfl (by decide +kernel) ⟨Nat.le_of_ble_eq_true rfl, Nat.le_of_ble_eq_true rfl⟩) [] rfl (by decide) hl.1 rfl rfl (Nat.le_of_ble_eq_true rfl) dX7_amountOfPayment_16 ⟨Nat.le_of_ble_eq_true rfl, Nat.le_of_ble_eq_true rfl⟩ (fun v w1 H locs hq hw => ?_)
  obtain ⟨q16_0, rfl, rfl⟩ := hq
  have hw : lo_Wd X ([oX7 xo xi isz (a 0) xh xs sv xr xt xl xa xc, oX2 xa (PL P i.toNat 0) (PL P i.toNat 1) (PL P i.toNat 2) (PL P i.toNat 3) (PL P i.toNat 4) (PL P i.toNat 5) (PL P i.toNat 6) (PL P i.toNat 7) (PL P i.toNat 8) (PL P i.toNat 9), oX3 (a 0) (a 1) (a 2) (Pn P), arN X (a 1) 6 b, oX0 (a 2) (a 3) (a 4) (a 5) (Px P) (Pk P), arI X (a 3) 20 (Pa P), arI X (a 4) 20 (Pb P), arI X (a 5) 20 (Pd P)] ++ ((lsW b (PL P)))) A9 s9.heap H locs := hw
  refine W.eq (g2 := F0 m9 19 ls []) rfl ?_
  refine lv_aload_n Ex Eb dX7_amountOfPayment_19 rfl (lv_at hl 0 rfl) ?_
  refine lo_get E hK hw huRX7 9 hf55 rfl 0 rfl rfl (by decide) (v := .ref xa) rfl dX7_amountOfPayment_20 ?_
  refine lv_iload_n Ex Eb dX7_amountOfPayment_23 rfl (lv_at hl 2 rfl) ?_
  refine lv_iconst (v := iI 1) Ex Eb dX7_amountOfPayment_24 rfl ?_
  refine lo_isub E dX7_amountOfPayment_25 ?_
  refine lo_callV (q0 := 1) (rest := []) E hK hw (kX2_settleMonths l X xa (PL P i.toNat) (k - 1) (hLi) (by omega)) (cwV 1 E.2.2.2.2 gX7_amountOfPayment_X2_settleMonths rfl rfl rfl (by decide +kernel) ⟨Nat.le_of_ble_eq_true rfl, Nat.le_of_ble_eq_true rfl⟩) rfl rfl [1] rfl (by decide) hl.1 rfl rfl (Nat.le_of_ble_eq_true rfl) dX7_amountOfPayment_26 ⟨Nat.le_of_ble_eq_true rfl, Nat.le_of_ble_eq_true rfl⟩ (fun v w1 H locs hq hw => ?_)
  obtain ⟨rfl, rfl⟩ := hq
  have hw : lo_Wd X ([oX7 xo xi isz (a 0) xh xs sv xr xt xl xa xc, oX2 xa (runL (k - 1).toNat (PL P i.toNat) 0) (runL (k - 1).toNat (PL P i.toNat) 1) (runL (k - 1).toNat (PL P i.toNat) 2) (runL (k - 1).toNat (PL P i.toNat) 3) (runL (k - 1).toNat (PL P i.toNat) 4) (runL (k - 1).toNat (PL P i.toNat) 5) (runL (k - 1).toNat (PL P i.toNat) 6) (runL (k - 1).toNat (PL P i.toNat) 7) (runL (k - 1).toNat (PL P i.toNat) 8) (runL (k - 1).toNat (PL P i.toNat) 9), oX3 (a 0) (a 1) (a 2) (Pn P), arN X (a 1) 6 b, oX0 (a 2) (a 3) (a 4) (a 5) (Px P) (Pk P), arI X (a 3) 20 (Pa P), arI X (a 4) 20 (Pb P), arI X (a 5) 20 (Pd P)] ++ ((lsW b (PL P)))) A9 s9.heap H locs := hw
  refine W.eq (g2 := F0 m9 29 ls [.int (iI (lastL (k - 1).toNat (PL P i.toNat) 0))]) rfl ?_
  refine lv_pop Ex Eb dX7_amountOfPayment_29 rfl ?_
  have hRL := runL_LI (k - 1).toNat (PL P i.toNat) hLi
  obtain ⟨⟨jb0, jb1⟩, ⟨jr0, jr1⟩, ⟨jc0, jc1⟩, ⟨jm0, jm1⟩, ⟨ji0, ji1⟩, ⟨js0, js1⟩, jop, jcl⟩ := id hRL
  refine lv_aload_n Ex Eb dX7_amountOfPayment_30 rfl (lv_at hl 0 rfl) ?_
  refine lo_get E hK hw huRX7 9 hf55 rfl 0 rfl rfl (by decide) (v := .ref xa) rfl dX7_amountOfPayment_31 ?_
  refine lo_callV (q0 := 1) (rest := []) E hK hw (kX2_isRunning l X xa (runL (k - 1).toNat (PL P i.toNat)) (by omega)) (cwV 0 E.2.2.2.2 gX7_amountOfPayment_X2_isRunning rfl rfl rfl (by decide +kernel) ⟨Nat.le_of_ble_eq_true rfl, Nat.le_of_ble_eq_true rfl⟩) rfl rfl [1] rfl (by decide) hl.1 rfl rfl (Nat.le_of_ble_eq_true rfl) dX7_amountOfPayment_34 ⟨Nat.le_of_ble_eq_true rfl, Nat.le_of_ble_eq_true rfl⟩ (fun v w1 H locs hq hw => ?_)
  obtain ⟨r1, q34_0, rfl, rfl⟩ := hq
  have hw : lo_Wd X ([oX7 xo xi isz (a 0) xh xs sv xr xt xl xa xc, oX2 xa (runL (k - 1).toNat (PL P i.toNat) 0) (runL (k - 1).toNat (PL P i.toNat) 1) (runL (k - 1).toNat (PL P i.toNat) 2) (runL (k - 1).toNat (PL P i.toNat) 3) (runL (k - 1).toNat (PL P i.toNat) 4) (runL (k - 1).toNat (PL P i.toNat) 5) (runL (k - 1).toNat (PL P i.toNat) 6) (runL (k - 1).toNat (PL P i.toNat) 7) (runL (k - 1).toNat (PL P i.toNat) 8) (runL (k - 1).toNat (PL P i.toNat) 9), oX3 (a 0) (a 1) (a 2) (Pn P), arN X (a 1) 6 b, oX0 (a 2) (a 3) (a 4) (a 5) (Px P) (Pk P), arI X (a 3) 20 (Pa P), arI X (a 4) 20 (Pb P), arI X (a 5) 20 (Pd P)] ++ ((lsW b (PL P)))) A9 s9.heap H locs := hw
  refine W.eq (g2 := F0 m9 37 ls [.int (iI r1)]) rfl ?_
  refine lo_if_eq (tgt := 50) E dX7_amountOfPayment_37 (by decide) (by omega) (fun c2 => ?_) (fun c2 => ?_)
  · skip
    refine lv_iconst (v := iI (-1)) Ex Eb dX7_amountOfPayment_50 rfl ?_
    exact lo_iret E hRt hLk hK hAe hw dX7_amountOfPayment_51 rfl ⟨runL (k - 1).toNat (PL P i.toNat), -1, (by omega), (by omega), (by first | exact Or.inl ⟨by omega, rfl⟩ | exact Or.inr ⟨by omega, rfl⟩), rfl, rfl⟩
  · skip
    refine lv_aload_n Ex Eb dX7_amountOfPayment_40 rfl (lv_at hl 0 rfl) ?_
    refine lo_get E hK hw huRX7 9 hf55 rfl 0 rfl rfl (by decide) (v := .ref xa) rfl dX7_amountOfPayment_41 ?_
    refine lo_callV (q0 := 1) (rest := []) E hK hw (kX2_nextDue l X xa (runL (k - 1).toNat (PL P i.toNat)) (by omega) (by omega) (by omega) (by omega) (by omega) (by omega) (by omega) (by omega)) (cwV 0 E.2.2.2.2 gX7_amountOfPayment_X2_nextDue rfl rfl rfl (by decide +kernel) ⟨Nat.le_of_ble_eq_true rfl, Nat.le_of_ble_eq_true rfl⟩) rfl rfl [1] rfl (by decide) hl.1 rfl rfl (Nat.le_of_ble_eq_true rfl) dX7_amountOfPayment_44 ⟨Nat.le_of_ble_eq_true rfl, Nat.le_of_ble_eq_true rfl⟩ (fun v w1 H locs hq hw => ?_)
    obtain ⟨rfl, rfl⟩ := hq
    have hw : lo_Wd X ([oX7 xo xi isz (a 0) xh xs sv xr xt xl xa xc, oX2 xa (runL (k - 1).toNat (PL P i.toNat) 0) (runL (k - 1).toNat (PL P i.toNat) 1) (runL (k - 1).toNat (PL P i.toNat) 2) (runL (k - 1).toNat (PL P i.toNat) 3) (runL (k - 1).toNat (PL P i.toNat) 4) (runL (k - 1).toNat (PL P i.toNat) 5) (runL (k - 1).toNat (PL P i.toNat) 6) (runL (k - 1).toNat (PL P i.toNat) 7) (runL (k - 1).toNat (PL P i.toNat) 8) (runL (k - 1).toNat (PL P i.toNat) 9), oX3 (a 0) (a 1) (a 2) (Pn P), arN X (a 1) 6 b, oX0 (a 2) (a 3) (a 4) (a 5) (Px P) (Pk P), arI X (a 3) 20 (Pa P), arI X (a 4) 20 (Pb P), arI X (a 5) 20 (Pd P)] ++ ((lsW b (PL P)))) A9 s9.heap H locs := hw
    refine W.eq (g2 := F0 m9 47 ls [.int (iI (dueL (runL (k - 1).toNat (PL P i.toNat))))]) rfl ?_
    refine lv_goto (tgt := 51) Ex Eb dX7_amountOfPayment_47 (by decide) ?_
    exact lo_iret E hRt hLk hK hAe hw dX7_amountOfPayment_51 rfl ⟨runL (k - 1).toNat (PL P i.toNat), dueL (runL (k - 1).toNat (PL P i.toNat)), (by omega), (by omega), (by first | exact Or.inl ⟨by omega, rfl⟩ | exact Or.inr ⟨by omega, rfl⟩), rfl, rfl⟩
set_option maxHeartbeats 4000000 in
set_option maxRecDepth 100000 in
theorem kX7_balanceAftern (l : Launch) (X : KX) (xo xi xh xs xr xt xl xa xc : Nat) (isz sv : Int) (A0 : Nat → Int) (a b : Nat → Nat) (P : PT) (i k : Int) (hPI : PI P) (hi9 : i32 i) (hk9 : i32 k) (hin : 0 ≤ i ∧ i < Pn P) (hkk : 0 ≤ k ∧ k ≤ 120) : CM l X yX7_balanceAfter wsX7_balanceAfter ({ frames := 7, cells := 0, slots := 0, locals := 122 }) [.ref xo, .int (iI i), .int (iI k)] ([oX7 xo xi isz (a 0) xh xs sv xr xt xl xa xc, oX2 xa (A0 0) (A0 1) (A0 2) (A0 3) (A0 4) (A0 5) (A0 6) (A0 7) (A0 8) (A0 9), oX3 (a 0) (a 1) (a 2) (Pn P), arN X (a 1) 6 b, oX0 (a 2) (a 3) (a 4) (a 5) (Px P) (Pk P), arI X (a 3) 20 (Pa P), arI X (a 4) 20 (Pb P), arI X (a 5) 20 (Pd P)] ++ ((lsW b (PL P)))) (fun v9 w9 => ∃ A9 : Nat → Int, (0 ≤ i ∧ i < Pn P) ∧ (0 ≤ k ∧ k ≤ 120) ∧ v9 = some (.int (iI (runL k.toNat (PL P i.toNat) 1))) ∧ w9 = [oX7 xo xi isz (a 0) xh xs sv xr xt xl xa xc, oX2 xa (A9 0) (A9 1) (A9 2) (A9 3) (A9 4) (A9 5) (A9 6) (A9 7) (A9 8) (A9 9), oX3 (a 0) (a 1) (a 2) (Pn P), arN X (a 1) 6 b, oX0 (a 2) (a 3) (a 4) (a 5) (Px P) (Pk P), arI X (a 3) 20 (Pa P), arI X (a 4) 20 (Pb P), arI X (a 5) 20 (Pd P)] ++ ((lsW b (PL P)))) 0 0 := by
  refine lo_enter (cc := cX7_balanceAfter) (maxL := 3) (ret := (some .int)) (lv := [(0, .ref xo), (1, .int (iI i)), (2, .int (iI k))]) (by decide) rfl rfl (Nat.le_of_ble_eq_true rfl) ?_
  intro p9 e9 s9 m9 bl9 me9 c9 A9 ls hAe E hRt hLk hK hl hw
  have Ex := E.1
  have Eb := E.2.1
  have huRX7 : ∀ w ∈ u_ws RX7 TX7 11, w ∈ wsX7_balanceAfter := by decide +kernel
  have hf55 : (Cond.fieldLink RX7 55 "LoanSchedule" "aheadLoan" "LLoanSchedule$Loan;").before _ s9 = true := E.2.2.2.2 _ (List.mem_of_getElem? (i := 1) rfl)
  have huRX2 : ∀ w ∈ u_ws RX2 TX2 10, w ∈ wsX7_balanceAfter := by decide +kernel
  have hf137 : (Cond.fieldLink RX7 137 "LoanSchedule$Loan" "balance" "I").before _ s9 = true := E.2.2.2.2 _ (List.mem_of_getElem? (i := 2) rfl)
  obtain ⟨⟨hn0, hn1⟩, ⟨hx0, hx1⟩, ⟨hk0, hk1⟩, hL⟩ := id hPI
  refine lv_aload_n Ex Eb dX7_balanceAfter_0 rfl (lv_at hl 0 rfl) ?_
  refine lo_get E hK hw huRX7 9 hf55 rfl 0 rfl rfl (by decide) (v := .ref xa) rfl dX7_balanceAfter_1 ?_
  refine lv_aload_n Ex Eb dX7_balanceAfter_4 rfl (lv_at hl 0 rfl) ?_
  refine lv_iload_n Ex Eb dX7_balanceAfter_5 rfl (lv_at hl 1 rfl) ?_
  refine lo_callV (q0 := 0) (rest := [.ref xa]) E hK hw (kX7_loanAtn l X xo xi xh xs xr xt xl xa xc isz sv a b P i (by omega) (by omega) (by omega)) (cwV 1 E.2.2.2.2 gX7_balanceAfter_X7_loanAt rfl rfl rfl (by decide +kernel) ⟨Nat.le_of_ble_eq_true rfl, Nat.le_of_ble_eq_true rfl⟩) rfl rfl [0, 2, 3, 4, 5, 6, 7, 8, 9, 10, 11, 12, 13] rfl (by decide) hl.1 rfl rfl (Nat.le_of_ble_eq_true rfl) dX7_balanceAfter_6 ⟨Nat.le_of_ble_eq_true rfl, Nat.le_of_ble_eq_true rfl⟩ (fun v w1 H locs hq hw => ?_)
  obtain ⟨q6_0, rfl, rfl⟩ := hq
  have hw : lo_Wd X ([oX7 xo xi isz (a 0) xh xs sv xr xt xl xa xc, oX2 xa (A0 0) (A0 1) (A0 2) (A0 3) (A0 4) (A0 5) (A0 6) (A0 7) (A0 8) (A0 9), oX3 (a 0) (a 1) (a 2) (Pn P), arN X (a 1) 6 b, oX0 (a 2) (a 3) (a 4) (a 5) (Px P) (Pk P), arI X (a 3) 20 (Pa P), arI X (a 4) 20 (Pb P), arI X (a 5) 20 (Pd P)] ++ ((lsW b (PL P)))) A9 s9.heap H locs := hw
  refine W.eq (g2 := F0 m9 9 ls [.ref (b i.toNat), .ref xa]) rfl ?_
  have hLi := hL i.toNat (by omega)
  obtain ⟨⟨hb0, hb1⟩, ⟨hr0, hr1⟩, ⟨hc0, hc1⟩, ⟨hm0, hm1⟩, ⟨hi0, hi1⟩, ⟨hs0, hs1⟩, hop, hcl⟩ := id hLi
  refine lo_callV (q0 := 1) (rest := []) E hK hw (kX2_copyFrom l X xa (b i.toNat) A0 (PL P i.toNat) ) (cwV 1 E.2.2.2.2 gX7_balanceAfter_X2_copyFrom rfl rfl rfl (by decide +kernel) ⟨Nat.le_of_ble_eq_true rfl, Nat.le_of_ble_eq_true rfl⟩) rfl rfl [1, 8 + i.toNat] (lo_ps_cons rfl (lo_ps_cons (lsW_atE (k := 8) rfl (by omega)) lo_ps_nil)) (by simp [va_nd]; try omega) hl.1 rfl rfl (Nat.le_of_ble_eq_true rfl) dX7_balanceAfter_9 ⟨Nat.le_of_ble_eq_true rfl, Nat.le_of_ble_eq_true rfl⟩ (fun v w1 H locs hq hw => ?_)
  obtain ⟨rfl, rfl⟩ := hq
  have hw := lo_cast (lsW_k (k := 8) (ps := [1]) (w1 := [oX2 xa (PL P i.toNat 0) (PL P i.toNat 1) (PL P i.toNat 2) (PL P i.toNat 3) (PL P i.toNat 4) (PL P i.toNat 5) (PL P i.toNat 6) (PL P i.toNat 7) (PL P i.toNat 8) (PL P i.toNat 9)]) rfl (by omega) (by decide) rfl rfl) hw
  have hw : lo_Wd X ([oX7 xo xi isz (a 0) xh xs sv xr xt xl xa xc, oX2 xa (PL P i.toNat 0) (PL P i.toNat 1) (PL P i.toNat 2) (PL P i.toNat 3) (PL P i.toNat 4) (PL P i.toNat 5) (PL P i.toNat 6) (PL P i.toNat 7) (PL P i.toNat 8) (PL P i.toNat 9), oX3 (a 0) (a 1) (a 2) (Pn P), arN X (a 1) 6 b, oX0 (a 2) (a 3) (a 4) (a 5) (Px P) (Pk P), arI X (a 3) 20 (Pa P), arI X (a 4) 20 (Pb P), arI X (a 5) 20 (Pd P)] ++ ((lsW b (PL P)))) A9 s9.heap H locs := hw
  refine W.eq (g2 := F0 m9 12 ls []) rfl ?_
  refine lv_iload_n Ex Eb dX7_balanceAfter_12 rfl (lv_at hl 2 rfl) ?_
  refine lv_iconst (v := iI 0) Ex Eb dX7_balanceAfter_13 rfl ?_
  refine lv_bipush (v := iI 120) Ex Eb dX7_balanceAfter_14 rfl ?_
  refine lo_callS (rest := []) E hK hw (kX7_requireRangen l X k 0 120 (by omega) (by omega) (by omega) (by omega)) (cwS 3 E.2.2.2.2 gX7_balanceAfter_X7_requireRange rfl rfl rfl (by decide +kernel) ⟨Nat.le_of_ble_eq_true rfl, Nat.le_of_ble_eq_true rfl⟩) [] rfl (by decide) hl.1 rfl rfl (Nat.le_of_ble_eq_true rfl) dX7_balanceAfter_16 ⟨Nat.le_of_ble_eq_true rfl, Nat.le_of_ble_eq_true rfl⟩ (fun v w1 H locs hq hw => ?_)
  obtain ⟨q16_0, rfl, rfl⟩ := hq
  have hw : lo_Wd X ([oX7 xo xi isz (a 0) xh xs sv xr xt xl xa xc, oX2 xa (PL P i.toNat 0) (PL P i.toNat 1) (PL P i.toNat 2) (PL P i.toNat 3) (PL P i.toNat 4) (PL P i.toNat 5) (PL P i.toNat 6) (PL P i.toNat 7) (PL P i.toNat 8) (PL P i.toNat 9), oX3 (a 0) (a 1) (a 2) (Pn P), arN X (a 1) 6 b, oX0 (a 2) (a 3) (a 4) (a 5) (Px P) (Pk P), arI X (a 3) 20 (Pa P), arI X (a 4) 20 (Pb P), arI X (a 5) 20 (Pd P)] ++ ((lsW b (PL P)))) A9 s9.heap H locs := hw
  refine W.eq (g2 := F0 m9 19 ls []) rfl ?_
  refine lv_aload_n Ex Eb dX7_balanceAfter_19 rfl (lv_at hl 0 rfl) ?_
  refine lo_get E hK hw huRX7 9 hf55 rfl 0 rfl rfl (by decide) (v := .ref xa) rfl dX7_balanceAfter_20 ?_
  refine lv_iload_n Ex Eb dX7_balanceAfter_23 rfl (lv_at hl 2 rfl) ?_
  refine lo_callV (q0 := 1) (rest := []) E hK hw (kX2_settleMonths l X xa (PL P i.toNat) k (hLi) (by omega)) (cwV 1 E.2.2.2.2 gX7_balanceAfter_X2_settleMonths rfl rfl rfl (by decide +kernel) ⟨Nat.le_of_ble_eq_true rfl, Nat.le_of_ble_eq_true rfl⟩) rfl rfl [1] rfl (by decide) hl.1 rfl rfl (Nat.le_of_ble_eq_true rfl) dX7_balanceAfter_24 ⟨Nat.le_of_ble_eq_true rfl, Nat.le_of_ble_eq_true rfl⟩ (fun v w1 H locs hq hw => ?_)
  obtain ⟨rfl, rfl⟩ := hq
  have hw : lo_Wd X ([oX7 xo xi isz (a 0) xh xs sv xr xt xl xa xc, oX2 xa (runL k.toNat (PL P i.toNat) 0) (runL k.toNat (PL P i.toNat) 1) (runL k.toNat (PL P i.toNat) 2) (runL k.toNat (PL P i.toNat) 3) (runL k.toNat (PL P i.toNat) 4) (runL k.toNat (PL P i.toNat) 5) (runL k.toNat (PL P i.toNat) 6) (runL k.toNat (PL P i.toNat) 7) (runL k.toNat (PL P i.toNat) 8) (runL k.toNat (PL P i.toNat) 9), oX3 (a 0) (a 1) (a 2) (Pn P), arN X (a 1) 6 b, oX0 (a 2) (a 3) (a 4) (a 5) (Px P) (Pk P), arI X (a 3) 20 (Pa P), arI X (a 4) 20 (Pb P), arI X (a 5) 20 (Pd P)] ++ ((lsW b (PL P)))) A9 s9.heap H locs := hw
  refine W.eq (g2 := F0 m9 27 ls [.int (iI (lastL k.toNat (PL P i.toNat) 0))]) rfl ?_
  refine lv_pop Ex Eb dX7_balanceAfter_27 rfl ?_
  refine lv_aload_n Ex Eb dX7_balanceAfter_28 rfl (lv_at hl 0 rfl) ?_
  refine lo_get E hK hw huRX7 9 hf55 rfl 0 rfl rfl (by decide) (v := .ref xa) rfl dX7_balanceAfter_29 ?_
  refine lo_get E hK hw huRX2 1 hf137 rfl 1 rfl rfl (by decide) (v := .int (iI (runL k.toNat (PL P i.toNat) 1))) rfl dX7_balanceAfter_32 ?_
  exact lo_iret E hRt hLk hK hAe hw dX7_balanceAfter_35 rfl ⟨runL k.toNat (PL P i.toNat), (by omega), (by omega), rfl, rfl⟩
