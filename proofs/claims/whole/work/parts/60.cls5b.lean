set_option maxHeartbeats 4000000 in
set_option maxRecDepth 100000 in
theorem kX7_totalInterestAhead (l : Launch) (X : KX) (xo xi xh xs xr xt xl xa xc : Nat) (isz sv : Int) (A0 : Nat → Int) (a b : Nat → Nat) (P : PT) (hPI : PI P) : CM l X yX7_totalInterestAhead wsX7_totalInterestAhead ({ frames := 4, cells := 0, slots := 0, locals := 88 }) [.ref xo] ([oX7 xo xi isz (a 0) xh xs sv xr xt xl xa xc, oX2 xa (A0 0) (A0 1) (A0 2) (A0 3) (A0 4) (A0 5) (A0 6) (A0 7) (A0 8) (A0 9), oX3 (a 0) (a 1) (a 2) (Pn P), arN X (a 1) 6 b, oX0 (a 2) (a 3) (a 4) (a 5) (Px P) (Pk P), arI X (a 3) 20 (Pa P), arI X (a 4) 20 (Pb P), arI X (a 5) 20 (Pd P)] ++ ((lsW b (PL P)))) (fun v9 w9 => ∃ A9 : Nat → Int, (True) ∧ v9 = some (.int (iI (sumF (fun k => runL 120 (PL P k) 6 - PL P k 6) (Pn P).toNat))) ∧ w9 = [oX7 xo xi isz (a 0) xh xs sv xr xt xl xa xc, oX2 xa (A9 0) (A9 1) (A9 2) (A9 3) (A9 4) (A9 5) (A9 6) (A9 7) (A9 8) (A9 9), oX3 (a 0) (a 1) (a 2) (Pn P), arN X (a 1) 6 b, oX0 (a 2) (a 3) (a 4) (a 5) (Px P) (Pk P), arI X (a 3) 20 (Pa P), arI X (a 4) 20 (Pb P), arI X (a 5) 20 (Pd P)] ++ ((lsW b (PL P)))) 0 0 := by
  refine lo_enter (cc := cX7_totalInterestAhead) (maxL := 3) (ret := (some .int)) (lv := [(0, .ref xo)]) (by decide) rfl rfl (Nat.le_of_ble_eq_true rfl) ?_
  intro p9 e9 s9 m9 bl9 me9 c9 A9 ls hAe E hRt hLk hK hl hw
  have Ex := E.1
  have Eb := E.2.1
  have huRX7 : ∀ w ∈ u_ws RX7 TX7 11, w ∈ wsX7_totalInterestAhead := by decide +kernel
  have hf20 : (Cond.fieldLink RX7 20 "LoanSchedule" "plan" "LLoanSchedule$Plan;").before _ s9 = true := E.2.2.2.2 _ (List.mem_of_getElem? (i := 1) rfl)
  have huRX3 : ∀ w ∈ u_ws RX3 TX3 3, w ∈ wsX7_totalInterestAhead := by decide +kernel
  have hf100 : (Cond.fieldLink RX7 100 "LoanSchedule$Plan" "count" "I").before _ s9 = true := E.2.2.2.2 _ (List.mem_of_getElem? (i := 2) rfl)
  have hf260 : (Cond.fieldLink RX7 260 "LoanSchedule$Plan" "loans" "[LLoanSchedule$Loan;").before _ s9 = true := E.2.2.2.2 _ (List.mem_of_getElem? (i := 3) rfl)
  obtain ⟨⟨hn0, hn1⟩, ⟨hx0, hx1⟩, ⟨hk0, hk1⟩, hL⟩ := id hPI
  refine lv_iconst (v := iI 0) Ex Eb dX7_totalInterestAhead_0 rfl ?_
  refine lv_istore_n (lv' := [(1, .int (iI 0)), (0, .ref xo)]) Ex Eb dX7_totalInterestAhead_1 rfl hl (by decide) rfl (fun ls hl => ?_)
  refine lv_iconst (v := iI 0) Ex Eb dX7_totalInterestAhead_2 rfl ?_
  refine lv_istore_n (lv' := [(2, .int (iI 0)), (1, .int (iI 0)), (0, .ref xo)]) Ex Eb dX7_totalInterestAhead_3 rfl hl (by decide) rfl (fun ls hl => ?_)
  have lp4 : ∀ (n : Nat) (U : Nat → Int) (sm ix : Int), (Pn P - ix).toNat < n → (0 ≤ ix ∧ ix ≤ Pn P) → (sm = sumF (fun k => runL 120 (PL P k) 6 - PL P k 6) ix.toNat) → ∀ (H : Heap) (locs : List Loc) (ls : Array Slot), lo_Wd X ([oX7 xo xi isz (a 0) xh xs sv xr xt xl xa xc, oX2 xa (U 0) (U 1) (U 2) (U 3) (U 4) (U 5) (U 6) (U 7) (U 8) (U 9), oX3 (a 0) (a 1) (a 2) (Pn P), arN X (a 1) 6 b, oX0 (a 2) (a 3) (a 4) (a 5) (Px P) (Pk P), arI X (a 3) 20 (Pa P), arI X (a 4) 20 (Pb P), arI X (a 5) 20 (Pd P)] ++ ((lsW b (PL P)))) A9 s9.heap H locs → lv_has ls 3 [(0, .ref xo), (1, .int (iI sm)), (2, .int (iI ix))] → W p9 l e9 ({ frames := 4, cells := 0, slots := 0, locals := 88 } : Room) s9 m9 ([.ref xo] : List Value).toArray bl9 me9 c9 H locs 0 0 (MQ bl9 (lo_Qc X ([oX7 xo xi isz (a 0) xh xs sv xr xt xl xa xc, oX2 xa (A0 0) (A0 1) (A0 2) (A0 3) (A0 4) (A0 5) (A0 6) (A0 7) (A0 8) (A0 9), oX3 (a 0) (a 1) (a 2) (Pn P), arN X (a 1) 6 b, oX0 (a 2) (a 3) (a 4) (a 5) (Px P) (Pk P), arI X (a 3) 20 (Pa P), arI X (a 4) 20 (Pb P), arI X (a 5) 20 (Pd P)] ++ ((lsW b (PL P)))) s9.heap.size (fun v9 w9 => ∃ A9 : Nat → Int, (True) ∧ v9 = some (.int (iI (sumF (fun k => runL 120 (PL P k) 6 - PL P k 6) (Pn P).toNat))) ∧ w9 = [oX7 xo xi isz (a 0) xh xs sv xr xt xl xa xc, oX2 xa (A9 0) (A9 1) (A9 2) (A9 3) (A9 4) (A9 5) (A9 6) (A9 7) (A9 8) (A9 9), oX3 (a 0) (a 1) (a 2) (Pn P), arN X (a 1) 6 b, oX0 (a 2) (a 3) (a 4) (a 5) (Px P) (Pk P), arI X (a 3) 20 (Pa P), arI X (a 4) 20 (Pb P), arI X (a 5) 20 (Pd P)] ++ ((lsW b (PL P))))) ([.ref xo] : List Value).toArray s9 0 0 A9) (F0 m9 4 ls []) := by
    intro n
    induction n with
    | zero => intro U sm ix hn; exact absurd hn (Nat.not_lt_zero _)
    | succ n ih4 =>
      intro U sm ix hn4 iv4_0 iv4_1 H locs ls hw hl
      refine lv_iload_n Ex Eb dX7_totalInterestAhead_4 rfl (lv_at hl 2 rfl) ?_
      refine lv_aload_n Ex Eb dX7_totalInterestAhead_5 rfl (lv_at hl 0 rfl) ?_
      refine lo_get E hK hw huRX7 2 hf20 rfl 0 rfl rfl (by decide) (v := .ref (a 0)) rfl dX7_totalInterestAhead_6 ?_
      refine lo_get E hK hw huRX3 2 hf100 rfl 2 rfl rfl (by decide) (v := .int (iI (Pn P))) rfl dX7_totalInterestAhead_9 ?_
      refine lo_icmp_ge (tgt := 43) E dX7_totalInterestAhead_12 (by decide) (by omega) (by omega) (fun c1 => ?_) (fun c1 => ?_)
      · skip
        refine lv_iload_n Ex Eb dX7_totalInterestAhead_43 rfl (lv_at hl 1 rfl) ?_
        exact lo_iret E hRt hLk hK hAe hw dX7_totalInterestAhead_44 rfl ⟨U, (trivial), by rw [iv4_1, show ix = Pn P by omega], rfl⟩
      · skip
        refine lv_iload_n Ex Eb dX7_totalInterestAhead_15 rfl (lv_at hl 2 rfl) ?_
        refine lv_bipush (v := iI 6) Ex Eb dX7_totalInterestAhead_16 rfl ?_
        refine lo_icmp_ge (tgt := 43) E dX7_totalInterestAhead_18 (by decide) (by omega) (by omega) (fun c2 => ?_) (fun c2 => ?_)
        · skip
          refine lv_iload_n Ex Eb dX7_totalInterestAhead_43 rfl (lv_at hl 1 rfl) ?_
          exact lo_iret E hRt hLk hK hAe hw dX7_totalInterestAhead_44 rfl ⟨U, (trivial), by rw [iv4_1, show ix = Pn P by omega], rfl⟩
        · skip
          have hLi := hL ix.toNat (by omega)
          obtain ⟨⟨hb0, hb1⟩, ⟨hr0, hr1⟩, ⟨hc0, hc1⟩, ⟨hm0, hm1⟩, ⟨hi0, hi1⟩, ⟨hs0, hs1⟩, hop, hcl⟩ := id hLi
          refine lv_iload_n Ex Eb dX7_totalInterestAhead_21 rfl (lv_at hl 1 rfl) ?_
          refine lv_aload_n Ex Eb dX7_totalInterestAhead_22 rfl (lv_at hl 0 rfl) ?_
          refine lv_aload_n Ex Eb dX7_totalInterestAhead_23 rfl (lv_at hl 0 rfl) ?_
          refine lo_get E hK hw huRX7 2 hf20 rfl 0 rfl rfl (by decide) (v := .ref (a 0)) rfl dX7_totalInterestAhead_24 ?_
          refine lo_get E hK hw huRX3 0 hf260 rfl 2 rfl rfl (by decide) (v := .ref (a 1)) rfl dX7_totalInterestAhead_27 ?_
          refine lv_iload_n Ex Eb dX7_totalInterestAhead_30 rfl (lv_at hl 2 rfl) ?_
          refine lo_aldN E hK hw 3 rfl (by omega) dX7_totalInterestAhead_31 ?_
          refine lo_callV (q0 := 0) (rest := [.int (iI sm)]) E hK hw (kX7_interestToCome l X xo xi xh xs xr xt xl xa xc isz sv (a 0) (b ix.toNat) U (PL P ix.toNat) (hLi)) (cwV 1 E.2.2.2.2 gX7_totalInterestAhead_X7_interestToCome rfl rfl rfl (by decide +kernel) ⟨Nat.le_of_ble_eq_true rfl, Nat.le_of_ble_eq_true rfl⟩) rfl rfl [0, 1, 8 + ix.toNat] (lo_ps_cons rfl (lo_ps_cons rfl (lo_ps_cons (lsW_atE (k := 8) rfl (by omega)) lo_ps_nil))) (by simp [va_nd]; try omega) hl.1 rfl rfl (Nat.le_of_ble_eq_true rfl) dX7_totalInterestAhead_32 ⟨Nat.le_of_ble_eq_true rfl, Nat.le_of_ble_eq_true rfl⟩ (fun v w1 H locs hq hw => ?_)
          obtain ⟨rfl, rfl⟩ := hq
          have hw := lo_cast (lsW_k (k := 8) (ps := [0, 1]) (w1 := [oX7 xo xi isz (a 0) xh xs sv xr xt xl xa xc, oX2 xa (runL 120 (PL P ix.toNat) 0) (runL 120 (PL P ix.toNat) 1) (runL 120 (PL P ix.toNat) 2) (runL 120 (PL P ix.toNat) 3) (runL 120 (PL P ix.toNat) 4) (runL 120 (PL P ix.toNat) 5) (runL 120 (PL P ix.toNat) 6) (runL 120 (PL P ix.toNat) 7) (runL 120 (PL P ix.toNat) 8) (runL 120 (PL P ix.toNat) 9)]) rfl (by omega) (by decide) rfl rfl) hw
          have hw : lo_Wd X ([oX7 xo xi isz (a 0) xh xs sv xr xt xl xa xc, oX2 xa (runL 120 (PL P ix.toNat) 0) (runL 120 (PL P ix.toNat) 1) (runL 120 (PL P ix.toNat) 2) (runL 120 (PL P ix.toNat) 3) (runL 120 (PL P ix.toNat) 4) (runL 120 (PL P ix.toNat) 5) (runL 120 (PL P ix.toNat) 6) (runL 120 (PL P ix.toNat) 7) (runL 120 (PL P ix.toNat) 8) (runL 120 (PL P ix.toNat) 9), oX3 (a 0) (a 1) (a 2) (Pn P), arN X (a 1) 6 b, oX0 (a 2) (a 3) (a 4) (a 5) (Px P) (Pk P), arI X (a 3) 20 (Pa P), arI X (a 4) 20 (Pb P), arI X (a 5) 20 (Pd P)] ++ ((lsW b (PL P)))) A9 s9.heap H locs := hw
          refine W.eq (g2 := F0 m9 35 ls [.int (iI (runL 120 (PL P ix.toNat) 6 - (PL P ix.toNat) 6)), .int (iI sm)]) rfl ?_
          refine lo_iadd E dX7_totalInterestAhead_35 ?_
          refine lv_istore_n (lv' := [(1, .int (iI (sm + (runL 120 (PL P ix.toNat) 6 - (PL P ix.toNat) 6)))), (0, .ref xo), (2, .int (iI ix))]) Ex Eb dX7_totalInterestAhead_36 rfl hl (by decide) rfl (fun ls hl => ?_)
          refine lo_iinc (lv' := [(2, .int (iI (ix + 1))), (1, .int (iI (sm + (runL 120 (PL P ix.toNat) 6 - (PL P ix.toNat) 6)))), (0, .ref xo)]) E dX7_totalInterestAhead_37 hl (k := 2) rfl (by decide) rfl (fun ls hl => ?_)
          refine lv_goto (tgt := 4) Ex Eb dX7_totalInterestAhead_40 (by decide) ?_
          exact ih4 (runL 120 (PL P ix.toNat)) (sm + (runL 120 (PL P ix.toNat) 6 - (PL P ix.toNat) 6)) (ix + 1) (by omega) (by omega) (by rw [sumF_s (by omega), ← iv4_1]) _ _ _ hw (lv_sub hl [2, 1, 0] rfl)
  exact lp4 _ A0 0 0 (Nat.lt_succ_self _) (by omega) (rfl) _ _ _ hw (lv_sub hl [2, 1, 0] rfl)
set_option maxHeartbeats 4000000 in
set_option maxRecDepth 100000 in
theorem kX7_monthsToFreedom (l : Launch) (X : KX) (xo xi xh xs xr xt xl xa xc : Nat) (isz sv : Int) (A0 : Nat → Int) (a b : Nat → Nat) (P : PT) (hPI : PI P) : CM l X yX7_monthsToFreedom wsX7_monthsToFreedom ({ frames := 3, cells := 0, slots := 0, locals := 67 }) [.ref xo] ([oX7 xo xi isz (a 0) xh xs sv xr xt xl xa xc, oX2 xa (A0 0) (A0 1) (A0 2) (A0 3) (A0 4) (A0 5) (A0 6) (A0 7) (A0 8) (A0 9), oX3 (a 0) (a 1) (a 2) (Pn P), arN X (a 1) 6 b, oX0 (a 2) (a 3) (a 4) (a 5) (Px P) (Pk P), arI X (a 3) 20 (Pa P), arI X (a 4) 20 (Pb P), arI X (a 5) 20 (Pd P)] ++ ((lsW b (PL P)))) (fun v9 w9 => ∃ A9 : Nat → Int, (True) ∧ v9 = some (.int (iI (plMost P (Pn P).toNat))) ∧ w9 = [oX7 xo xi isz (a 0) xh xs sv xr xt xl xa xc, oX2 xa (A9 0) (A9 1) (A9 2) (A9 3) (A9 4) (A9 5) (A9 6) (A9 7) (A9 8) (A9 9), oX3 (a 0) (a 1) (a 2) (Pn P), arN X (a 1) 6 b, oX0 (a 2) (a 3) (a 4) (a 5) (Px P) (Pk P), arI X (a 3) 20 (Pa P), arI X (a 4) 20 (Pb P), arI X (a 5) 20 (Pd P)] ++ ((lsW b (PL P)))) 0 0 := by
  refine lo_enter (cc := cX7_monthsToFreedom) (maxL := 3) (ret := (some .int)) (lv := [(0, .ref xo)]) (by decide) rfl rfl (Nat.le_of_ble_eq_true rfl) ?_
  intro p9 e9 s9 m9 bl9 me9 c9 A9 ls hAe E hRt hLk hK hl hw
  have Ex := E.1
  have Eb := E.2.1
  have huRX7 : ∀ w ∈ u_ws RX7 TX7 11, w ∈ wsX7_monthsToFreedom := by decide +kernel
  have hf20 : (Cond.fieldLink RX7 20 "LoanSchedule" "plan" "LLoanSchedule$Plan;").before _ s9 = true := E.2.2.2.2 _ (List.mem_of_getElem? (i := 1) rfl)
  have huRX3 : ∀ w ∈ u_ws RX3 TX3 3, w ∈ wsX7_monthsToFreedom := by decide +kernel
  have hf100 : (Cond.fieldLink RX7 100 "LoanSchedule$Plan" "count" "I").before _ s9 = true := E.2.2.2.2 _ (List.mem_of_getElem? (i := 2) rfl)
  have hf260 : (Cond.fieldLink RX7 260 "LoanSchedule$Plan" "loans" "[LLoanSchedule$Loan;").before _ s9 = true := E.2.2.2.2 _ (List.mem_of_getElem? (i := 3) rfl)
  have hl275 : (Cond.methodLink RX7 275 Lib.Math.max.name).before _ s9 = true := E.2.2.2.2 _ (List.mem_of_getElem? (i := 4) rfl)
  have hstmax : (Cond.static Lib.Math.max.name).before _ s9 = true := E.2.2.2.2 _ (List.mem_of_getElem? (i := 5) rfl)
  have hmath : (Cond.initialized "java/lang/Math").before _ s9 = true := E.2.2.2.2 _ (List.mem_of_getElem? (i := 6) rfl)
  have hcdmax : (Cond.code Lib.Math.max.name Lib.Math.max.code 2 (some .int)).before _ s9 = true := E.2.2.2.2 _ (List.mem_of_getElem? (i := 7) rfl)
  obtain ⟨⟨hn0, hn1⟩, ⟨hx0, hx1⟩, ⟨hk0, hk1⟩, hL⟩ := id hPI
  refine lv_iconst (v := iI 0) Ex Eb dX7_monthsToFreedom_0 rfl ?_
  refine lv_istore_n (lv' := [(1, .int (iI 0)), (0, .ref xo)]) Ex Eb dX7_monthsToFreedom_1 rfl hl (by decide) rfl (fun ls hl => ?_)
  refine lv_iconst (v := iI 0) Ex Eb dX7_monthsToFreedom_2 rfl ?_
  refine lv_istore_n (lv' := [(2, .int (iI 0)), (1, .int (iI 0)), (0, .ref xo)]) Ex Eb dX7_monthsToFreedom_3 rfl hl (by decide) rfl (fun ls hl => ?_)
  have lp4 : ∀ (n : Nat) (U : Nat → Int) (sm ix : Int), (Pn P - ix).toNat < n → (0 ≤ ix ∧ ix ≤ Pn P) → (sm = plMost P ix.toNat) → (0 ≤ sm ∧ sm ≤ 120) → ∀ (H : Heap) (locs : List Loc) (ls : Array Slot), lo_Wd X ([oX7 xo xi isz (a 0) xh xs sv xr xt xl xa xc, oX2 xa (U 0) (U 1) (U 2) (U 3) (U 4) (U 5) (U 6) (U 7) (U 8) (U 9), oX3 (a 0) (a 1) (a 2) (Pn P), arN X (a 1) 6 b, oX0 (a 2) (a 3) (a 4) (a 5) (Px P) (Pk P), arI X (a 3) 20 (Pa P), arI X (a 4) 20 (Pb P), arI X (a 5) 20 (Pd P)] ++ ((lsW b (PL P)))) A9 s9.heap H locs → lv_has ls 3 [(0, .ref xo), (1, .int (iI sm)), (2, .int (iI ix))] → W p9 l e9 ({ frames := 3, cells := 0, slots := 0, locals := 67 } : Room) s9 m9 ([.ref xo] : List Value).toArray bl9 me9 c9 H locs 0 0 (MQ bl9 (lo_Qc X ([oX7 xo xi isz (a 0) xh xs sv xr xt xl xa xc, oX2 xa (A0 0) (A0 1) (A0 2) (A0 3) (A0 4) (A0 5) (A0 6) (A0 7) (A0 8) (A0 9), oX3 (a 0) (a 1) (a 2) (Pn P), arN X (a 1) 6 b, oX0 (a 2) (a 3) (a 4) (a 5) (Px P) (Pk P), arI X (a 3) 20 (Pa P), arI X (a 4) 20 (Pb P), arI X (a 5) 20 (Pd P)] ++ ((lsW b (PL P)))) s9.heap.size (fun v9 w9 => ∃ A9 : Nat → Int, (True) ∧ v9 = some (.int (iI (plMost P (Pn P).toNat))) ∧ w9 = [oX7 xo xi isz (a 0) xh xs sv xr xt xl xa xc, oX2 xa (A9 0) (A9 1) (A9 2) (A9 3) (A9 4) (A9 5) (A9 6) (A9 7) (A9 8) (A9 9), oX3 (a 0) (a 1) (a 2) (Pn P), arN X (a 1) 6 b, oX0 (a 2) (a 3) (a 4) (a 5) (Px P) (Pk P), arI X (a 3) 20 (Pa P), arI X (a 4) 20 (Pb P), arI X (a 5) 20 (Pd P)] ++ ((lsW b (PL P))))) ([.ref xo] : List Value).toArray s9 0 0 A9) (F0 m9 4 ls []) := by
    intro n
    induction n with
    | zero => intro U sm ix hn; exact absurd hn (Nat.not_lt_zero _)
    | succ n ih4 =>
      intro U sm ix hn4 iv4_0 iv4_1 iv4_2 H locs ls hw hl
      refine lv_iload_n Ex Eb dX7_monthsToFreedom_4 rfl (lv_at hl 2 rfl) ?_
      refine lv_aload_n Ex Eb dX7_monthsToFreedom_5 rfl (lv_at hl 0 rfl) ?_
      refine lo_get E hK hw huRX7 2 hf20 rfl 0 rfl rfl (by decide) (v := .ref (a 0)) rfl dX7_monthsToFreedom_6 ?_
      refine lo_get E hK hw huRX3 2 hf100 rfl 2 rfl rfl (by decide) (v := .int (iI (Pn P))) rfl dX7_monthsToFreedom_9 ?_
      refine lo_icmp_ge (tgt := 46) E dX7_monthsToFreedom_12 (by decide) (by omega) (by omega) (fun c1 => ?_) (fun c1 => ?_)
      · skip
        refine lv_iload_n Ex Eb dX7_monthsToFreedom_46 rfl (lv_at hl 1 rfl) ?_
        exact lo_iret E hRt hLk hK hAe hw dX7_monthsToFreedom_47 rfl ⟨U, (trivial), by rw [iv4_1, show ix = Pn P by omega], rfl⟩
      · skip
        refine lv_iload_n Ex Eb dX7_monthsToFreedom_15 rfl (lv_at hl 2 rfl) ?_
        refine lv_bipush (v := iI 6) Ex Eb dX7_monthsToFreedom_16 rfl ?_
        refine lo_icmp_ge (tgt := 46) E dX7_monthsToFreedom_18 (by decide) (by omega) (by omega) (fun c2 => ?_) (fun c2 => ?_)
        · skip
          refine lv_iload_n Ex Eb dX7_monthsToFreedom_46 rfl (lv_at hl 1 rfl) ?_
          exact lo_iret E hRt hLk hK hAe hw dX7_monthsToFreedom_47 rfl ⟨U, (trivial), by rw [iv4_1, show ix = Pn P by omega], rfl⟩
        · skip
          have hLi := hL ix.toNat (by omega)
          obtain ⟨⟨hb0, hb1⟩, ⟨hr0, hr1⟩, ⟨hc0, hc1⟩, ⟨hm0, hm1⟩, ⟨hi0, hi1⟩, ⟨hs0, hs1⟩, hop, hcl⟩ := id hLi
          refine lv_iload_n Ex Eb dX7_monthsToFreedom_21 rfl (lv_at hl 1 rfl) ?_
          refine lv_aload_n Ex Eb dX7_monthsToFreedom_22 rfl (lv_at hl 0 rfl) ?_
          refine lv_aload_n Ex Eb dX7_monthsToFreedom_23 rfl (lv_at hl 0 rfl) ?_
          refine lo_get E hK hw huRX7 2 hf20 rfl 0 rfl rfl (by decide) (v := .ref (a 0)) rfl dX7_monthsToFreedom_24 ?_
          refine lo_get E hK hw huRX3 0 hf260 rfl 2 rfl rfl (by decide) (v := .ref (a 1)) rfl dX7_monthsToFreedom_27 ?_
          refine lv_iload_n Ex Eb dX7_monthsToFreedom_30 rfl (lv_at hl 2 rfl) ?_
          refine lo_aldN E hK hw 3 rfl (by omega) dX7_monthsToFreedom_31 ?_
          refine lv_iconst (v := iI 0) Ex Eb dX7_monthsToFreedom_32 rfl ?_
          refine lo_callV (q0 := 0) (rest := [.int (iI sm)]) E hK hw (kX7_paymentsUntil l X xo xi xh xs xr xt xl xa xc isz sv (a 0) (b ix.toNat) U (PL P ix.toNat) 0 (hLi) (by omega)) (cwV 2 E.2.2.2.2 gX7_monthsToFreedom_X7_paymentsUntil rfl rfl rfl (by decide +kernel) ⟨Nat.le_of_ble_eq_true rfl, Nat.le_of_ble_eq_true rfl⟩) rfl rfl [0, 1, 8 + ix.toNat] (lo_ps_cons rfl (lo_ps_cons rfl (lo_ps_cons (lsW_atE (k := 8) rfl (by omega)) lo_ps_nil))) (by simp [va_nd]; try omega) hl.1 rfl rfl (Nat.le_of_ble_eq_true rfl) dX7_monthsToFreedom_33 ⟨Nat.le_of_ble_eq_true rfl, Nat.le_of_ble_eq_true rfl⟩ (fun v w1 H locs hq hw => ?_)
          obtain ⟨A93, q33_0, rfl, rfl⟩ := hq
          have hw := lo_cast (lsW_k (k := 8) (ps := [0, 1]) (w1 := [oX7 xo xi isz (a 0) xh xs sv xr xt xl xa xc, oX2 xa (A93 0) (A93 1) (A93 2) (A93 3) (A93 4) (A93 5) (A93 6) (A93 7) (A93 8) (A93 9)]) rfl (by omega) (by decide) rfl rfl) hw
          have hw : lo_Wd X ([oX7 xo xi isz (a 0) xh xs sv xr xt xl xa xc, oX2 xa (A93 0) (A93 1) (A93 2) (A93 3) (A93 4) (A93 5) (A93 6) (A93 7) (A93 8) (A93 9), oX3 (a 0) (a 1) (a 2) (Pn P), arN X (a 1) 6 b, oX0 (a 2) (a 3) (a 4) (a 5) (Px P) (Pk P), arI X (a 3) 20 (Pa P), arI X (a 4) 20 (Pb P), arI X (a 5) 20 (Pd P)] ++ ((lsW b (PL P)))) A9 s9.heap H locs := hw
          refine W.eq (g2 := F0 m9 36 ls [.int (iI (untL 120 (PL P ix.toNat) 0)), .int (iI sm)]) rfl ?_
          have hun := unt0_r (PL P ix.toNat)
          refine lo_mmax E hl.1 hl275 hstmax hmath hcdmax (Nat.le_of_ble_eq_true rfl) (Nat.le_of_ble_eq_true rfl) (Nat.le_of_ble_eq_true rfl) (Nat.le_of_ble_eq_true rfl) (by omega) (by omega) dX7_monthsToFreedom_36 ?_
          refine lv_istore_n (lv' := [(1, .int (iI (max sm (untL 120 (PL P ix.toNat) 0)))), (0, .ref xo), (2, .int (iI ix))]) Ex Eb dX7_monthsToFreedom_39 rfl hl (by decide) rfl (fun ls hl => ?_)
          refine lo_iinc (lv' := [(2, .int (iI (ix + 1))), (1, .int (iI (max sm (untL 120 (PL P ix.toNat) 0)))), (0, .ref xo)]) E dX7_monthsToFreedom_40 hl (k := 2) rfl (by decide) rfl (fun ls hl => ?_)
          refine lv_goto (tgt := 4) Ex Eb dX7_monthsToFreedom_43 (by decide) ?_
          exact ih4 A93 (max sm (untL 120 (PL P ix.toNat) 0)) (ix + 1) (by omega) (by omega) (by rw [plMost_s P (by omega), ← iv4_1]) (by omega) _ _ _ hw (lv_sub hl [2, 1, 0] rfl)
  exact lp4 _ A0 0 0 (Nat.lt_succ_self _) (by omega) (rfl) (by omega) _ _ _ hw (lv_sub hl [2, 1, 0] rfl)
set_option maxHeartbeats 4000000 in
set_option maxRecDepth 100000 in
theorem kX7_budgetMonths (l : Launch) (X : KX) (kS : Nat → Nat) (hst : l.stackTraces = false) (xo xi xh xs xr xt xl xa xc : Nat) (isz sv : Int) (t t2 : Nat → Nat) (Q : PT) (a b : Nat → Nat) (P : PT) (k y : Int) (hPI : PI P) (hk9 : i32 k) (hy : y = 0 ∨ y = 1) : CT l X kS yX7_budgetMonths wsX7_budgetMonths ({ frames := 7, cells := 1, slots := 6, locals := 156 }) [.ref xo, .int (iI k), .int (iI y)] ([oX7 xo xi isz (a 0) xh xs sv xr (t 0) xl xa xc, oX3 (t 0) (t 1) (t 2) (Pn Q), arN X (t 1) 6 t2, oX0 (t 2) (t 3) (t 4) (t 5) (Px Q) (Pk Q), arI X (t 3) 20 (Pa Q), arI X (t 4) 20 (Pb Q), arI X (t 5) 20 (Pd Q), oX3 (a 0) (a 1) (a 2) (Pn P), arN X (a 1) 6 b, oX0 (a 2) (a 3) (a 4) (a 5) (Px P) (Pk P), arI X (a 3) 20 (Pa P), arI X (a 4) 20 (Pb P), arI X (a 5) 20 (Pd P)] ++ ((lsW t2 (PL Q)) ++ ((lsW b (PL P))))) (fun v9 w9 => (1 ≤ k ∧ k ≤ 9999999) ∧ v9 = some (.int (iI ((bgF k y 120 (cpP Q P) 0).2))) ∧ w9 = [oX7 xo xi isz (a 0) xh xs sv xr (t 0) xl xa xc, oX3 (t 0) (t 1) (t 2) (Pn (bgF k y 120 (cpP Q P) 0).1), arN X (t 1) 6 t2, oX0 (t 2) (t 3) (t 4) (t 5) (Px (bgF k y 120 (cpP Q P) 0).1) (Pk (bgF k y 120 (cpP Q P) 0).1), arI X (t 3) 20 (Pa (bgF k y 120 (cpP Q P) 0).1), arI X (t 4) 20 (Pb (bgF k y 120 (cpP Q P) 0).1), arI X (t 5) 20 (Pd (bgF k y 120 (cpP Q P) 0).1), oX3 (a 0) (a 1) (a 2) (Pn P), arN X (a 1) 6 b, oX0 (a 2) (a 3) (a 4) (a 5) (Px P) (Pk P), arI X (a 3) 20 (Pa P), arI X (a 4) 20 (Pb P), arI X (a 5) 20 (Pd P)] ++ ((lsW t2 (PL (bgF k y 120 (cpP Q P) 0).1)) ++ ((lsW b (PL P))))) (fun E9 w9 => (E9 = "java/lang/IllegalArgumentException") ∧ (¬ (1 ≤ k ∧ k ≤ 9999999)) ∧ w9 = [oX7 xo xi isz (a 0) xh xs sv xr (t 0) xl xa xc, oX3 (t 0) (t 1) (t 2) (Pn Q), arN X (t 1) 6 t2, oX0 (t 2) (t 3) (t 4) (t 5) (Px Q) (Pk Q), arI X (t 3) 20 (Pa Q), arI X (t 4) 20 (Pb Q), arI X (t 5) 20 (Pd Q), oX3 (a 0) (a 1) (a 2) (Pn P), arN X (a 1) 6 b, oX0 (a 2) (a 3) (a 4) (a 5) (Px P) (Pk P), arI X (a 3) 20 (Pa P), arI X (a 4) 20 (Pb P), arI X (a 5) 20 (Pd P)] ++ ((lsW t2 (PL Q)) ++ ((lsW b (PL P))))) 1 6 := by
  refine lo_enterT (cc := cX7_budgetMonths) (maxL := 3) (ret := (some .int)) (lv := [(0, .ref xo), (1, .int (iI k)), (2, .int (iI y))]) (by decide) rfl rfl (Nat.le_of_ble_eq_true rfl) ?_
  intro p9 e9 s9 m9 bl9 me9 c9 A9 ls hAe E hRt hLk hK hl hw hV hT9
  have Ex := E.1
  have Eb := E.2.1
  have hc103 : (Cond.constant RX7 103 (9999999)).before _ s9 = true := E.2.2.2.2 _ (List.mem_of_getElem? (i := 1) rfl)
  have huRX7 : ∀ w ∈ u_ws RX7 TX7 11, w ∈ wsX7_budgetMonths := by decide +kernel
  have hf45 : (Cond.fieldLink RX7 45 "LoanSchedule" "trialPlan" "LLoanSchedule$Plan;").before _ s9 = true := E.2.2.2.2 _ (List.mem_of_getElem? (i := 2) rfl)
  have hf20 : (Cond.fieldLink RX7 20 "LoanSchedule" "plan" "LLoanSchedule$Plan;").before _ s9 = true := E.2.2.2.2 _ (List.mem_of_getElem? (i := 3) rfl)
  have hCP : PI (cpP Q P) := cpP_PI hPI
  refine lv_iload_n Ex Eb dX7_budgetMonths_0 rfl (lv_at hl 1 rfl) ?_
  refine lv_iconst (v := iI 1) Ex Eb dX7_budgetMonths_1 rfl ?_
  refine lo_ldc (z := 9999999) E hc103 dX7_budgetMonths_2 rfl ?_
  refine lo_callST (rest := []) E hK hw hV (kX7_requireRange l X kS hst k 1 9999999 (by omega) (by omega) (by omega)) (cwS 3 E.2.2.2.2 gX7_budgetMonths_X7_requireRange rfl rfl rfl (by decide +kernel) ⟨Nat.le_of_ble_eq_true rfl, Nat.le_of_ble_eq_true rfl⟩) [] rfl (by decide) hl.1 rfl rfl (Nat.le_of_ble_eq_true rfl) dX7_budgetMonths_4 ⟨Nat.le_of_ble_eq_true rfl, Nat.le_of_ble_eq_true rfl⟩ (fun E9 ce9 q9 w1 H locs hq hw hx1 hx2 hx3 => ?_) (fun v w1 H locs hq hw => ?_)
  · obtain ⟨x4_0, x4_1, rfl⟩ := hq
    have hw : lo_Wd X ([oX7 xo xi isz (a 0) xh xs sv xr (t 0) xl xa xc, oX3 (t 0) (t 1) (t 2) (Pn Q), arN X (t 1) 6 t2, oX0 (t 2) (t 3) (t 4) (t 5) (Px Q) (Pk Q), arI X (t 3) 20 (Pa Q), arI X (t 4) 20 (Pb Q), arI X (t 5) 20 (Pd Q), oX3 (a 0) (a 1) (a 2) (Pn P), arN X (a 1) 6 b, oX0 (a 2) (a 3) (a 4) (a 5) (Px P) (Pk P), arI X (a 3) 20 (Pa P), arI X (a 4) 20 (Pb P), arI X (a 5) 20 (Pd P)] ++ ((lsW t2 (PL Q)) ++ ((lsW b (PL P))))) A9 s9.heap H locs := hw
    exact lo_out hT9 hLk hK hAe hw hx1 hx2 hx3 rfl (Nat.le_of_ble_eq_true rfl) (Nat.le_of_ble_eq_true rfl) ⟨(x4_0), (x4_1), rfl⟩
  obtain ⟨q4_0, rfl, rfl⟩ := hq
  have hw : lo_Wd X ([oX7 xo xi isz (a 0) xh xs sv xr (t 0) xl xa xc, oX3 (t 0) (t 1) (t 2) (Pn Q), arN X (t 1) 6 t2, oX0 (t 2) (t 3) (t 4) (t 5) (Px Q) (Pk Q), arI X (t 3) 20 (Pa Q), arI X (t 4) 20 (Pb Q), arI X (t 5) 20 (Pd Q), oX3 (a 0) (a 1) (a 2) (Pn P), arN X (a 1) 6 b, oX0 (a 2) (a 3) (a 4) (a 5) (Px P) (Pk P), arI X (a 3) 20 (Pa P), arI X (a 4) 20 (Pb P), arI X (a 5) 20 (Pd P)] ++ ((lsW t2 (PL Q)) ++ ((lsW b (PL P))))) A9 s9.heap H locs := hw
  refine W.eq (g2 := F0 m9 7 ls []) rfl ?_
  refine lv_aload_n Ex Eb dX7_budgetMonths_7 rfl (lv_at hl 0 rfl) ?_
  refine lo_get E hK hw huRX7 7 hf45 rfl 0 rfl rfl (by decide) (v := .ref (t 0)) rfl dX7_budgetMonths_8 ?_
  refine lv_aload_n Ex Eb dX7_budgetMonths_11 rfl (lv_at hl 0 rfl) ?_
  refine lo_get E hK hw huRX7 2 hf20 rfl 0 rfl rfl (by decide) (v := .ref (a 0)) rfl dX7_budgetMonths_12 ?_
  have hw : lo_Wd X (([oX7 xo xi isz (a 0) xh xs sv xr (t 0) xl xa xc]) ++ ([oX3 (t 0) (t 1) (t 2) (Pn Q), arN X (t 1) 6 t2, oX0 (t 2) (t 3) (t 4) (t 5) (Px Q) (Pk Q), arI X (t 3) 20 (Pa Q), arI X (t 4) 20 (Pb Q), arI X (t 5) 20 (Pd Q), oX3 (a 0) (a 1) (a 2) (Pn P), arN X (a 1) 6 b, oX0 (a 2) (a 3) (a 4) (a 5) (Px P) (Pk P), arI X (a 3) 20 (Pa P), arI X (a 4) 20 (Pb P), arI X (a 5) 20 (Pd P)] ++ ((lsW t2 (PL Q)) ++ ((lsW b (PL P)))))) A9 s9.heap _ _ := hw
  refine lo_callV (q0 := 1) (rest := []) E hK hw (kX3_copyFrom l X t t2 a b Q P (hPI)) (cwV 1 E.2.2.2.2 gX7_budgetMonths_X3_copyFrom rfl rfl rfl (by decide +kernel) ⟨Nat.le_of_ble_eq_true rfl, Nat.le_of_ble_eq_true rfl⟩) rfl rfl (List.range' 1 24) (lo_ps_tail (pre := [oX7 xo xi isz (a 0) xh xs sv xr (t 0) xl xa xc]) rfl rfl) (by decide +kernel) hl.1 rfl rfl (Nat.le_of_ble_eq_true rfl) dX7_budgetMonths_15 ⟨Nat.le_of_ble_eq_true rfl, Nat.le_of_ble_eq_true rfl⟩ (fun v w1 H locs hq hw => ?_)
  obtain ⟨rfl, rfl⟩ := hq
  have hw := lo_cast (lo_sets_tail (n := 24) (k := 1) (pre := [oX7 xo xi isz (a 0) xh xs sv xr (t 0) xl xa xc]) (w0 := [oX3 (t 0) (t 1) (t 2) (Pn Q), arN X (t 1) 6 t2, oX0 (t 2) (t 3) (t 4) (t 5) (Px Q) (Pk Q), arI X (t 3) 20 (Pa Q), arI X (t 4) 20 (Pb Q), arI X (t 5) 20 (Pd Q), oX3 (a 0) (a 1) (a 2) (Pn P), arN X (a 1) 6 b, oX0 (a 2) (a 3) (a 4) (a 5) (Px P) (Pk P), arI X (a 3) 20 (Pa P), arI X (a 4) 20 (Pb P), arI X (a 5) 20 (Pd P)] ++ ((lsW t2 (PL Q)) ++ ((lsW b (PL P))))) (w1 := [oX3 (t 0) (t 1) (t 2) (Pn (cpP Q P)), arN X (t 1) 6 t2, oX0 (t 2) (t 3) (t 4) (t 5) (Px (cpP Q P)) (Pk (cpP Q P)), arI X (t 3) 20 (Pa (cpP Q P)), arI X (t 4) 20 (Pb (cpP Q P)), arI X (t 5) 20 (Pd (cpP Q P)), oX3 (a 0) (a 1) (a 2) (Pn P), arN X (a 1) 6 b, oX0 (a 2) (a 3) (a 4) (a 5) (Px P) (Pk P), arI X (a 3) 20 (Pa P), arI X (a 4) 20 (Pb P), arI X (a 5) 20 (Pd P)] ++ ((lsW t2 (PL (cpP Q P))) ++ ((lsW b (PL P))))) rfl rfl rfl) hw
  have hw : lo_Wd X ([oX7 xo xi isz (a 0) xh xs sv xr (t 0) xl xa xc, oX3 (t 0) (t 1) (t 2) (Pn (cpP Q P)), arN X (t 1) 6 t2, oX0 (t 2) (t 3) (t 4) (t 5) (Px (cpP Q P)) (Pk (cpP Q P)), arI X (t 3) 20 (Pa (cpP Q P)), arI X (t 4) 20 (Pb (cpP Q P)), arI X (t 5) 20 (Pd (cpP Q P)), oX3 (a 0) (a 1) (a 2) (Pn P), arN X (a 1) 6 b, oX0 (a 2) (a 3) (a 4) (a 5) (Px P) (Pk P), arI X (a 3) 20 (Pa P), arI X (a 4) 20 (Pb P), arI X (a 5) 20 (Pd P)] ++ ((lsW t2 (PL (cpP Q P))) ++ ((lsW b (PL P))))) A9 s9.heap H locs := hw
  refine W.eq (g2 := F0 m9 18 ls []) rfl ?_
  refine lv_aload_n Ex Eb dX7_budgetMonths_18 rfl (lv_at hl 0 rfl) ?_
  refine lo_get E hK hw huRX7 7 hf45 rfl 0 rfl rfl (by decide) (v := .ref (t 0)) rfl dX7_budgetMonths_19 ?_
  refine lv_iload_n Ex Eb dX7_budgetMonths_22 rfl (lv_at hl 1 rfl) ?_
  refine lv_iload_n Ex Eb dX7_budgetMonths_23 rfl (lv_at hl 2 rfl) ?_
  refine lo_callV (q0 := 1) (rest := []) E hK hw (kX3_settleWithBudget l X t t2 (cpP Q P) k y (hCP) (by omega) (hy)) (cwV 2 E.2.2.2.2 gX7_budgetMonths_X3_settleWithBudget rfl rfl rfl (by decide +kernel) ⟨Nat.le_of_ble_eq_true rfl, Nat.le_of_ble_eq_true rfl⟩) rfl rfl [1, 2, 3, 4, 5, 6, 13, 14, 15, 16, 17, 18] rfl (by decide) hl.1 rfl rfl (Nat.le_of_ble_eq_true rfl) dX7_budgetMonths_24 ⟨Nat.le_of_ble_eq_true rfl, Nat.le_of_ble_eq_true rfl⟩ (fun v w1 H locs hq hw => ?_)
  obtain ⟨rfl, rfl⟩ := hq
  have hw : lo_Wd X ([oX7 xo xi isz (a 0) xh xs sv xr (t 0) xl xa xc, oX3 (t 0) (t 1) (t 2) (Pn (bgF k y 120 (cpP Q P) 0).1), arN X (t 1) 6 t2, oX0 (t 2) (t 3) (t 4) (t 5) (Px (bgF k y 120 (cpP Q P) 0).1) (Pk (bgF k y 120 (cpP Q P) 0).1), arI X (t 3) 20 (Pa (bgF k y 120 (cpP Q P) 0).1), arI X (t 4) 20 (Pb (bgF k y 120 (cpP Q P) 0).1), arI X (t 5) 20 (Pd (bgF k y 120 (cpP Q P) 0).1), oX3 (a 0) (a 1) (a 2) (Pn P), arN X (a 1) 6 b, oX0 (a 2) (a 3) (a 4) (a 5) (Px P) (Pk P), arI X (a 3) 20 (Pa P), arI X (a 4) 20 (Pb P), arI X (a 5) 20 (Pd P)] ++ ((lsW t2 (PL (bgF k y 120 (cpP Q P) 0).1)) ++ ((lsW b (PL P))))) A9 s9.heap H locs := hw
  refine W.eq (g2 := F0 m9 27 ls [.int (iI ((bgF k y 120 (cpP Q P) 0).2))]) rfl ?_
  refine vx_ret ?_
  exact lo_iret E hRt hLk hK hAe hw dX7_budgetMonths_27 rfl ⟨(by omega), rfl, rfl⟩
set_option maxHeartbeats 4000000 in
set_option maxRecDepth 100000 in
theorem kX7_budgetInterest (l : Launch) (X : KX) (kS : Nat → Nat) (hst : l.stackTraces = false) (xo xi xh xs xr xt xl xa xc : Nat) (isz sv : Int) (t t2 : Nat → Nat) (Q : PT) (a b : Nat → Nat) (P : PT) (k y : Int) (hPI : PI P) (hk9 : i32 k) (hy : y = 0 ∨ y = 1) : CT l X kS yX7_budgetInterest wsX7_budgetInterest ({ frames := 7, cells := 1, slots := 6, locals := 156 }) [.ref xo, .int (iI k), .int (iI y)] ([oX7 xo xi isz (a 0) xh xs sv xr (t 0) xl xa xc, oX3 (t 0) (t 1) (t 2) (Pn Q), arN X (t 1) 6 t2, oX0 (t 2) (t 3) (t 4) (t 5) (Px Q) (Pk Q), arI X (t 3) 20 (Pa Q), arI X (t 4) 20 (Pb Q), arI X (t 5) 20 (Pd Q), oX3 (a 0) (a 1) (a 2) (Pn P), arN X (a 1) 6 b, oX0 (a 2) (a 3) (a 4) (a 5) (Px P) (Pk P), arI X (a 3) 20 (Pa P), arI X (a 4) 20 (Pb P), arI X (a 5) 20 (Pd P)] ++ ((lsW t2 (PL Q)) ++ ((lsW b (PL P))))) (fun v9 w9 => ∃ z : Int, (1 ≤ k ∧ k ≤ 9999999) ∧ (((bgF k y 120 (cpP Q P) 0).2 = -1 ∧ z = -1) ∨ ((bgF k y 120 (cpP Q P) 0).2 ≠ -1 ∧ z = sumF (fun j => PL (bgF k y 120 (cpP Q P) 0).1 j 6) (Pn (bgF k y 120 (cpP Q P) 0).1).toNat - sumF (fun j => PL P j 6) (Pn P).toNat)) ∧ v9 = some (.int (iI z)) ∧ w9 = [oX7 xo xi isz (a 0) xh xs sv xr (t 0) xl xa xc, oX3 (t 0) (t 1) (t 2) (Pn (bgF k y 120 (cpP Q P) 0).1), arN X (t 1) 6 t2, oX0 (t 2) (t 3) (t 4) (t 5) (Px (bgF k y 120 (cpP Q P) 0).1) (Pk (bgF k y 120 (cpP Q P) 0).1), arI X (t 3) 20 (Pa (bgF k y 120 (cpP Q P) 0).1), arI X (t 4) 20 (Pb (bgF k y 120 (cpP Q P) 0).1), arI X (t 5) 20 (Pd (bgF k y 120 (cpP Q P) 0).1), oX3 (a 0) (a 1) (a 2) (Pn P), arN X (a 1) 6 b, oX0 (a 2) (a 3) (a 4) (a 5) (Px P) (Pk P), arI X (a 3) 20 (Pa P), arI X (a 4) 20 (Pb P), arI X (a 5) 20 (Pd P)] ++ ((lsW t2 (PL (bgF k y 120 (cpP Q P) 0).1)) ++ ((lsW b (PL P))))) (fun E9 w9 => (E9 = "java/lang/IllegalArgumentException") ∧ (¬ (1 ≤ k ∧ k ≤ 9999999)) ∧ w9 = [oX7 xo xi isz (a 0) xh xs sv xr (t 0) xl xa xc, oX3 (t 0) (t 1) (t 2) (Pn Q), arN X (t 1) 6 t2, oX0 (t 2) (t 3) (t 4) (t 5) (Px Q) (Pk Q), arI X (t 3) 20 (Pa Q), arI X (t 4) 20 (Pb Q), arI X (t 5) 20 (Pd Q), oX3 (a 0) (a 1) (a 2) (Pn P), arN X (a 1) 6 b, oX0 (a 2) (a 3) (a 4) (a 5) (Px P) (Pk P), arI X (a 3) 20 (Pa P), arI X (a 4) 20 (Pb P), arI X (a 5) 20 (Pd P)] ++ ((lsW t2 (PL Q)) ++ ((lsW b (PL P))))) 1 6 := by
  refine lo_enterT (cc := cX7_budgetInterest) (maxL := 3) (ret := (some .int)) (lv := [(0, .ref xo), (1, .int (iI k)), (2, .int (iI y))]) (by decide) rfl rfl (Nat.le_of_ble_eq_true rfl) ?_
  intro p9 e9 s9 m9 bl9 me9 c9 A9 ls hAe E hRt hLk hK hl hw hV hT9
  have Ex := E.1
  have Eb := E.2.1
  have hc103 : (Cond.constant RX7 103 (9999999)).before _ s9 = true := E.2.2.2.2 _ (List.mem_of_getElem? (i := 1) rfl)
  have huRX7 : ∀ w ∈ u_ws RX7 TX7 11, w ∈ wsX7_budgetInterest := by decide +kernel
  have hf45 : (Cond.fieldLink RX7 45 "LoanSchedule" "trialPlan" "LLoanSchedule$Plan;").before _ s9 = true := E.2.2.2.2 _ (List.mem_of_getElem? (i := 2) rfl)
  have hf20 : (Cond.fieldLink RX7 20 "LoanSchedule" "plan" "LLoanSchedule$Plan;").before _ s9 = true := E.2.2.2.2 _ (List.mem_of_getElem? (i := 3) rfl)
  have hCP : PI (cpP Q P) := cpP_PI hPI
  have hBG := bgF_r k y 120 (cpP Q P) 0 hCP (by omega)
  refine lv_iload_n Ex Eb dX7_budgetInterest_0 rfl (lv_at hl 1 rfl) ?_
  refine lv_iconst (v := iI 1) Ex Eb dX7_budgetInterest_1 rfl ?_
  refine lo_ldc (z := 9999999) E hc103 dX7_budgetInterest_2 rfl ?_
  refine lo_callST (rest := []) E hK hw hV (kX7_requireRange l X kS hst k 1 9999999 (by omega) (by omega) (by omega)) (cwS 3 E.2.2.2.2 gX7_budgetInterest_X7_requireRange rfl rfl rfl (by decide +kernel) ⟨Nat.le_of_ble_eq_true rfl, Nat.le_of_ble_eq_true rfl⟩) [] rfl (by decide) hl.1 rfl rfl (Nat.le_of_ble_eq_true rfl) dX7_budgetInterest_4 ⟨Nat.le_of_ble_eq_true rfl, Nat.le_of_ble_eq_true rfl⟩ (fun E9 ce9 q9 w1 H locs hq hw hx1 hx2 hx3 => ?_) (fun v w1 H locs hq hw => ?_)
  · obtain ⟨x4_0, x4_1, rfl⟩ := hq
    have hw : lo_Wd X ([oX7 xo xi isz (a 0) xh xs sv xr (t 0) xl xa xc, oX3 (t 0) (t 1) (t 2) (Pn Q), arN X (t 1) 6 t2, oX0 (t 2) (t 3) (t 4) (t 5) (Px Q) (Pk Q), arI X (t 3) 20 (Pa Q), arI X (t 4) 20 (Pb Q), arI X (t 5) 20 (Pd Q), oX3 (a 0) (a 1) (a 2) (Pn P), arN X (a 1) 6 b, oX0 (a 2) (a 3) (a 4) (a 5) (Px P) (Pk P), arI X (a 3) 20 (Pa P), arI X (a 4) 20 (Pb P), arI X (a 5) 20 (Pd P)] ++ ((lsW t2 (PL Q)) ++ ((lsW b (PL P))))) A9 s9.heap H locs := hw
    exact lo_out hT9 hLk hK hAe hw hx1 hx2 hx3 rfl (Nat.le_of_ble_eq_true rfl) (Nat.le_of_ble_eq_true rfl) ⟨(x4_0), (x4_1), rfl⟩
  obtain ⟨q4_0, rfl, rfl⟩ := hq
  have hw : lo_Wd X ([oX7 xo xi isz (a 0) xh xs sv xr (t 0) xl xa xc, oX3 (t 0) (t 1) (t 2) (Pn Q), arN X (t 1) 6 t2, oX0 (t 2) (t 3) (t 4) (t 5) (Px Q) (Pk Q), arI X (t 3) 20 (Pa Q), arI X (t 4) 20 (Pb Q), arI X (t 5) 20 (Pd Q), oX3 (a 0) (a 1) (a 2) (Pn P), arN X (a 1) 6 b, oX0 (a 2) (a 3) (a 4) (a 5) (Px P) (Pk P), arI X (a 3) 20 (Pa P), arI X (a 4) 20 (Pb P), arI X (a 5) 20 (Pd P)] ++ ((lsW t2 (PL Q)) ++ ((lsW b (PL P))))) A9 s9.heap H locs := hw
  refine W.eq (g2 := F0 m9 7 ls []) rfl ?_
  refine lv_aload_n Ex Eb dX7_budgetInterest_7 rfl (lv_at hl 0 rfl) ?_
  refine lo_get E hK hw huRX7 7 hf45 rfl 0 rfl rfl (by decide) (v := .ref (t 0)) rfl dX7_budgetInterest_8 ?_
  refine lv_aload_n Ex Eb dX7_budgetInterest_11 rfl (lv_at hl 0 rfl) ?_
  refine lo_get E hK hw huRX7 2 hf20 rfl 0 rfl rfl (by decide) (v := .ref (a 0)) rfl dX7_budgetInterest_12 ?_
  have hw : lo_Wd X (([oX7 xo xi isz (a 0) xh xs sv xr (t 0) xl xa xc]) ++ ([oX3 (t 0) (t 1) (t 2) (Pn Q), arN X (t 1) 6 t2, oX0 (t 2) (t 3) (t 4) (t 5) (Px Q) (Pk Q), arI X (t 3) 20 (Pa Q), arI X (t 4) 20 (Pb Q), arI X (t 5) 20 (Pd Q), oX3 (a 0) (a 1) (a 2) (Pn P), arN X (a 1) 6 b, oX0 (a 2) (a 3) (a 4) (a 5) (Px P) (Pk P), arI X (a 3) 20 (Pa P), arI X (a 4) 20 (Pb P), arI X (a 5) 20 (Pd P)] ++ ((lsW t2 (PL Q)) ++ ((lsW b (PL P)))))) A9 s9.heap _ _ := hw
  refine lo_callV (q0 := 1) (rest := []) E hK hw (kX3_copyFrom l X t t2 a b Q P (hPI)) (cwV 1 E.2.2.2.2 gX7_budgetInterest_X3_copyFrom rfl rfl rfl (by decide +kernel) ⟨Nat.le_of_ble_eq_true rfl, Nat.le_of_ble_eq_true rfl⟩) rfl rfl (List.range' 1 24) (lo_ps_tail (pre := [oX7 xo xi isz (a 0) xh xs sv xr (t 0) xl xa xc]) rfl rfl) (by decide +kernel) hl.1 rfl rfl (Nat.le_of_ble_eq_true rfl) dX7_budgetInterest_15 ⟨Nat.le_of_ble_eq_true rfl, Nat.le_of_ble_eq_true rfl⟩ (fun v w1 H locs hq hw => ?_)
  obtain ⟨rfl, rfl⟩ := hq
  have hw := lo_cast (lo_sets_tail (n := 24) (k := 1) (pre := [oX7 xo xi isz (a 0) xh xs sv xr (t 0) xl xa xc]) (w0 := [oX3 (t 0) (t 1) (t 2) (Pn Q), arN X (t 1) 6 t2, oX0 (t 2) (t 3) (t 4) (t 5) (Px Q) (Pk Q), arI X (t 3) 20 (Pa Q), arI X (t 4) 20 (Pb Q), arI X (t 5) 20 (Pd Q), oX3 (a 0) (a 1) (a 2) (Pn P), arN X (a 1) 6 b, oX0 (a 2) (a 3) (a 4) (a 5) (Px P) (Pk P), arI X (a 3) 20 (Pa P), arI X (a 4) 20 (Pb P), arI X (a 5) 20 (Pd P)] ++ ((lsW t2 (PL Q)) ++ ((lsW b (PL P))))) (w1 := [oX3 (t 0) (t 1) (t 2) (Pn (cpP Q P)), arN X (t 1) 6 t2, oX0 (t 2) (t 3) (t 4) (t 5) (Px (cpP Q P)) (Pk (cpP Q P)), arI X (t 3) 20 (Pa (cpP Q P)), arI X (t 4) 20 (Pb (cpP Q P)), arI X (t 5) 20 (Pd (cpP Q P)), oX3 (a 0) (a 1) (a 2) (Pn P), arN X (a 1) 6 b, oX0 (a 2) (a 3) (a 4) (a 5) (Px P) (Pk P), arI X (a 3) 20 (Pa P), arI X (a 4) 20 (Pb P), arI X (a 5) 20 (Pd P)] ++ ((lsW t2 (PL (cpP Q P))) ++ ((lsW b (PL P))))) rfl rfl rfl) hw
  have hw : lo_Wd X ([oX7 xo xi isz (a 0) xh xs sv xr (t 0) xl xa xc, oX3 (t 0) (t 1) (t 2) (Pn (cpP Q P)), arN X (t 1) 6 t2, oX0 (t 2) (t 3) (t 4) (t 5) (Px (cpP Q P)) (Pk (cpP Q P)), arI X (t 3) 20 (Pa (cpP Q P)), arI X (t 4) 20 (Pb (cpP Q P)), arI X (t 5) 20 (Pd (cpP Q P)), oX3 (a 0) (a 1) (a 2) (Pn P), arN X (a 1) 6 b, oX0 (a 2) (a 3) (a 4) (a 5) (Px P) (Pk P), arI X (a 3) 20 (Pa P), arI X (a 4) 20 (Pb P), arI X (a 5) 20 (Pd P)] ++ ((lsW t2 (PL (cpP Q P))) ++ ((lsW b (PL P))))) A9 s9.heap H locs := hw
  refine W.eq (g2 := F0 m9 18 ls []) rfl ?_
  refine lv_aload_n Ex Eb dX7_budgetInterest_18 rfl (lv_at hl 0 rfl) ?_
  refine lo_get E hK hw huRX7 7 hf45 rfl 0 rfl rfl (by decide) (v := .ref (t 0)) rfl dX7_budgetInterest_19 ?_
  refine lv_iload_n Ex Eb dX7_budgetInterest_22 rfl (lv_at hl 1 rfl) ?_
  refine lv_iload_n Ex Eb dX7_budgetInterest_23 rfl (lv_at hl 2 rfl) ?_
  refine lo_callV (q0 := 1) (rest := []) E hK hw (kX3_settleWithBudget l X t t2 (cpP Q P) k y (hCP) (by omega) (hy)) (cwV 2 E.2.2.2.2 gX7_budgetInterest_X3_settleWithBudget rfl rfl rfl (by decide +kernel) ⟨Nat.le_of_ble_eq_true rfl, Nat.le_of_ble_eq_true rfl⟩) rfl rfl [1, 2, 3, 4, 5, 6, 13, 14, 15, 16, 17, 18] rfl (by decide) hl.1 rfl rfl (Nat.le_of_ble_eq_true rfl) dX7_budgetInterest_24 ⟨Nat.le_of_ble_eq_true rfl, Nat.le_of_ble_eq_true rfl⟩ (fun v w1 H locs hq hw => ?_)
  obtain ⟨rfl, rfl⟩ := hq
  have hw : lo_Wd X ([oX7 xo xi isz (a 0) xh xs sv xr (t 0) xl xa xc, oX3 (t 0) (t 1) (t 2) (Pn (bgF k y 120 (cpP Q P) 0).1), arN X (t 1) 6 t2, oX0 (t 2) (t 3) (t 4) (t 5) (Px (bgF k y 120 (cpP Q P) 0).1) (Pk (bgF k y 120 (cpP Q P) 0).1), arI X (t 3) 20 (Pa (bgF k y 120 (cpP Q P) 0).1), arI X (t 4) 20 (Pb (bgF k y 120 (cpP Q P) 0).1), arI X (t 5) 20 (Pd (bgF k y 120 (cpP Q P) 0).1), oX3 (a 0) (a 1) (a 2) (Pn P), arN X (a 1) 6 b, oX0 (a 2) (a 3) (a 4) (a 5) (Px P) (Pk P), arI X (a 3) 20 (Pa P), arI X (a 4) 20 (Pb P), arI X (a 5) 20 (Pd P)] ++ ((lsW t2 (PL (bgF k y 120 (cpP Q P) 0).1)) ++ ((lsW b (PL P))))) A9 s9.heap H locs := hw
  refine W.eq (g2 := F0 m9 27 ls [.int (iI ((bgF k y 120 (cpP Q P) 0).2))]) rfl ?_
  refine lv_iconst (v := iI (-1)) Ex Eb dX7_budgetInterest_27 rfl ?_
  refine lo_icmp_ne (tgt := 33) E dX7_budgetInterest_28 (by decide) (by omega) (by omega) (fun c1 => ?_) (fun c1 => ?_)
  · skip
    refine lv_aload_n Ex Eb dX7_budgetInterest_33 rfl (lv_at hl 0 rfl) ?_
    refine lo_get E hK hw huRX7 7 hf45 rfl 0 rfl rfl (by decide) (v := .ref (t 0)) rfl dX7_budgetInterest_34 ?_
    refine lo_callV (q0 := 1) (rest := []) E hK hw (kX3_sumOfInterest l X t t2 ((bgF k y 120 (cpP Q P) 0).1) (hBG.1)) (cwV 0 E.2.2.2.2 gX7_budgetInterest_X3_sumOfInterest rfl rfl rfl (by decide +kernel) ⟨Nat.le_of_ble_eq_true rfl, Nat.le_of_ble_eq_true rfl⟩) rfl rfl [1, 2, 3, 4, 5, 6, 13, 14, 15, 16, 17, 18] rfl (by decide) hl.1 rfl rfl (Nat.le_of_ble_eq_true rfl) dX7_budgetInterest_37 ⟨Nat.le_of_ble_eq_true rfl, Nat.le_of_ble_eq_true rfl⟩ (fun v w1 H locs hq hw => ?_)
    obtain ⟨rfl, rfl⟩ := hq
    have hw : lo_Wd X ([oX7 xo xi isz (a 0) xh xs sv xr (t 0) xl xa xc, oX3 (t 0) (t 1) (t 2) (Pn (bgF k y 120 (cpP Q P) 0).1), arN X (t 1) 6 t2, oX0 (t 2) (t 3) (t 4) (t 5) (Px (bgF k y 120 (cpP Q P) 0).1) (Pk (bgF k y 120 (cpP Q P) 0).1), arI X (t 3) 20 (Pa (bgF k y 120 (cpP Q P) 0).1), arI X (t 4) 20 (Pb (bgF k y 120 (cpP Q P) 0).1), arI X (t 5) 20 (Pd (bgF k y 120 (cpP Q P) 0).1), oX3 (a 0) (a 1) (a 2) (Pn P), arN X (a 1) 6 b, oX0 (a 2) (a 3) (a 4) (a 5) (Px P) (Pk P), arI X (a 3) 20 (Pa P), arI X (a 4) 20 (Pb P), arI X (a 5) 20 (Pd P)] ++ ((lsW t2 (PL (bgF k y 120 (cpP Q P) 0).1)) ++ ((lsW b (PL P))))) A9 s9.heap H locs := hw
    refine W.eq (g2 := F0 m9 40 ls [.int (iI (sumF (fun i => PL (bgF k y 120 (cpP Q P) 0).1 i 6) (Pn (bgF k y 120 (cpP Q P) 0).1).toNat))]) rfl ?_
    refine lv_aload_n Ex Eb dX7_budgetInterest_40 rfl (lv_at hl 0 rfl) ?_
    refine lo_get E hK hw huRX7 2 hf20 rfl 0 rfl rfl (by decide) (v := .ref (a 0)) rfl dX7_budgetInterest_41 ?_
    refine lo_callV (q0 := 7) (rest := [.int (iI (sumF (fun i => PL (bgF k y 120 (cpP Q P) 0).1 i 6) (Pn (bgF k y 120 (cpP Q P) 0).1).toNat))]) E hK hw (kX3_sumOfInterest l X a b P (hPI)) (cwV 0 E.2.2.2.2 gX7_budgetInterest_X3_sumOfInterest rfl rfl rfl (by decide +kernel) ⟨Nat.le_of_ble_eq_true rfl, Nat.le_of_ble_eq_true rfl⟩) rfl rfl [7, 8, 9, 10, 11, 12, 19, 20, 21, 22, 23, 24] rfl (by decide) hl.1 rfl rfl (Nat.le_of_ble_eq_true rfl) dX7_budgetInterest_44 ⟨Nat.le_of_ble_eq_true rfl, Nat.le_of_ble_eq_true rfl⟩ (fun v w1 H locs hq hw => ?_)
    obtain ⟨rfl, rfl⟩ := hq
    have hw : lo_Wd X ([oX7 xo xi isz (a 0) xh xs sv xr (t 0) xl xa xc, oX3 (t 0) (t 1) (t 2) (Pn (bgF k y 120 (cpP Q P) 0).1), arN X (t 1) 6 t2, oX0 (t 2) (t 3) (t 4) (t 5) (Px (bgF k y 120 (cpP Q P) 0).1) (Pk (bgF k y 120 (cpP Q P) 0).1), arI X (t 3) 20 (Pa (bgF k y 120 (cpP Q P) 0).1), arI X (t 4) 20 (Pb (bgF k y 120 (cpP Q P) 0).1), arI X (t 5) 20 (Pd (bgF k y 120 (cpP Q P) 0).1), oX3 (a 0) (a 1) (a 2) (Pn P), arN X (a 1) 6 b, oX0 (a 2) (a 3) (a 4) (a 5) (Px P) (Pk P), arI X (a 3) 20 (Pa P), arI X (a 4) 20 (Pb P), arI X (a 5) 20 (Pd P)] ++ ((lsW t2 (PL (bgF k y 120 (cpP Q P) 0).1)) ++ ((lsW b (PL P))))) A9 s9.heap H locs := hw
    refine W.eq (g2 := F0 m9 47 ls [.int (iI (sumF (fun i => PL P i 6) (Pn P).toNat)), .int (iI (sumF (fun i => PL (bgF k y 120 (cpP Q P) 0).1 i 6) (Pn (bgF k y 120 (cpP Q P) 0).1).toNat))]) rfl ?_
    refine lo_isub E dX7_budgetInterest_47 ?_
    refine vx_ret ?_
    exact lo_iret E hRt hLk hK hAe hw dX7_budgetInterest_48 rfl ⟨sumF (fun i => PL (bgF k y 120 (cpP Q P) 0).1 i 6) (Pn (bgF k y 120 (cpP Q P) 0).1).toNat - sumF (fun i => PL P i 6) (Pn P).toNat, (by omega), (by first | exact Or.inl ⟨by omega, rfl⟩ | exact Or.inr ⟨by omega, rfl⟩), rfl, rfl⟩
  · skip
    refine lv_iconst (v := iI (-1)) Ex Eb dX7_budgetInterest_31 rfl ?_
    refine vx_ret ?_
    exact lo_iret E hRt hLk hK hAe hw dX7_budgetInterest_32 rfl ⟨-1, (by omega), (by first | exact Or.inl ⟨by omega, rfl⟩ | exact Or.inr ⟨by omega, rfl⟩), rfl, rfl⟩
