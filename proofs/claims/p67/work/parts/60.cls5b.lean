set_option maxHeartbeats 4000000 in
set_option maxRecDepth 100000 in
theorem kX7_totalInterestAhead (l : Launch) (X : KX) (xo xi xh xs xr xt xl xa xc : Nat) (isz sv : Int) (A0 : Nat → Int) (a b : Nat → Nat) (P : PT) (hPI : PI P) : CM l X yX7_totalInterestAhead wsX7_totalInterestAhead ({ frames := 4, cells := 0, slots := 0, locals := 88 }) [.ref xo] ([oX7 xo xi isz (a 0) xh xs sv xr xt xl xa xc, oX2 xa (A0 0) (A0 1) (A0 2) (A0 3) (A0 4) (A0 5) (A0 6) (A0 7) (A0 8) (A0 9), oX3 (a 0) (a 1) (a 2) (Pn P), arN X (a 1) 6 b, oX0 (a 2) (a 3) (a 4) (a 5) (Px P) (Pk P), arI X (a 3) 20 (Pa P), arI X (a 4) 20 (Pb P), arI X (a 5) 20 (Pd P)] ++ ((lsW b (PL P)))) (fun v9 w9 => ∃ A9 : Nat → Int, (True) ∧ v9 = some (.int (iI (sumF (fun k => runL 120 (PL P k) 6 - PL P k 6) (Pn P).toNat))) ∧ w9 = [oX7 xo xi isz (a 0) xh xs sv xr xt xl xa xc, oX2 xa (A9 0) (A9 1) (A9 2) (A9 3) (A9 4) (A9 5) (A9 6) (A9 7) (A9 8) (A9 9), oX3 (a 0) (a 1) (a 2) (Pn P), arN X (a 1) 6 b, oX0 (a 2) (a 3) (a 4) (a 5) (Px P) (Pk P), arI X (a 3) 20 (Pa P), arI X (a 4) 20 (Pb P), arI X (a 5) 20 (Pd P)] ++ ((lsW b (PL P)))) 0 0 := by
  refine lo_enter (cc := cX7_totalInterestAhead) (maxL := 3) (ret := (some .int)) (lv := [(0, .ref xo)]) (by decide) rfl rfl (Nat.le_of_ble_eq_true rfl) ?_
  intro p9 e9 s9 m9 bl9 me9 c9 A9 ls hAe E hRt hLk hK hl hw
  have Ex := E.1
  have Eb := E.2.1
  have huRX7 : ∀ w ∈ u_ws RX7 TX7 11, w ∈ wsX7_totalInterestAhead := by decide +kernel
  have hf20 : (Cond.fieldLink RX7 20 "LoanSchedule" "plan" "LLoanSchedule$Plan;").before _ s9 = true := E.2.2.2.2 _ (List.mem_of_getElem? (i := 1) rfl)
  have huRX3 : ∀ w ∈ u_ws RX3 TX3 3, w ∈ wsX7_totalInterestAhead := by decide +kernel
  have hf100 : (Cond.fieldLink RX7 100 "LoanSchedule$Plan" "count" "I").before _ s9 = true := E.2.2.2.2 _ (List.mem_of_getElem? (i := 2) rfl)
  have hf260 : (Cond.fieldLink RX7 260 "LoanSchedule$Plan" "loans" "[LLoanSchedule$Loan;").before _ s9 = true := E.2.2.2.2 _ (List.mem_of_getElem? (i := 3) rfl)
  obtain ⟨⟨hn0, hn1⟩, ⟨hx0, hx1⟩, ⟨hk0, hk1⟩, hL⟩ := id hPI
  refine lv_iconst (v := iI 0) Ex Eb dX7_totalInterestAhead_0 rfl ?_
  refine lv_istore_n (lv' := [(1, .int (iI 0)), (0, .ref xo)]) Ex Eb dX7_totalInterestAhead_1 rfl hl (by decide) rfl (fun ls hl => ?_)
  refine lv_iconst (v := iI 0) Ex Eb dX7_totalInterestAhead_2 rfl ?_
  refine lv_istore_n (lv' := [(2, .int (iI 0)), (1, .int (iI 0)), (0, .ref xo)]) Ex Eb dX7_totalInterestAhead_3 rfl hl (by decide) rfl (fun ls hl => ?_)
  have lp4 : ∀ (n : Nat) (U : Nat → Int) (sm ix : Int), (Pn P - ix).toNat < n → (0 ≤ ix ∧ ix ≤ Pn P) → (sm = sumF (fun k => runL 120 (PL P k) 6 - PL P k 6) ix.toNat) → ∀ (H : Heap) (locs : List Loc) (ls : Array Slot), lo_Wd X ([oX7 xo xi isz (a 0) xh xs sv xr xt xl xa xc, oX2 xa (U 0) (U 1) (U 2) (U 3) (U 4) (U 5) (U 6) (U 7) (U 8) (U 9), oX3 (a 0) (a 1) (a 2) (Pn P), arN X (a 1) 6 b, oX0 (a 2) (a 3) (a 4) (a 5) (Px P) (Pk P), arI X (a 3) 20 (Pa P), arI X (a 4) 20 (Pb P), arI X (a 5) 20 (Pd P)] ++ ((lsW b (PL P)))) A9 s9.heap H locs → lv_has ls 3 [(0, .ref xo), (1, .int (iI sm)), (2, .int (iI ix))] → W p9 l e9 ({ frames := 4, cells := 0, slots := 0, locals := 88 } : Room) s9 m9 ([.ref xo] : List Value).toArray bl9 me9 c9 H locs 0 0 (MQ bl9 (lo_Qc X ([oX7 xo xi isz (a 0) xh xs sv xr xt xl xa xc, oX2 xa (A0 0) (A0 1) (A0 2) (A0 3) (A0 4) (A0 5) (A0 6) (A0 7) (A0 8) (A0 9), oX3 (a 0) (a 1) (a 2) (Pn P), arN X (a 1) 6 b, oX0 (a 2) (a 3) (a 4) (a 5) (Px P) (Pk P), arI X (a 3) 20 (Pa P), arI X (a 4) 20 (Pb P), arI X (a 5) 20 (Pd P)] ++ ((lsW b (PL P)))) s9.heap.size (fun v9 w9 => ∃ A9 : Nat → Int, (True) ∧ v9 = some (.int (iI (sumF (fun k => runL 120 (PL P k) 6 - PL P k 6) (Pn P).toNat))) ∧ w9 = [oX7 xo xi isz (a 0) xh xs sv xr xt xl xa xc, oX2 xa (A9 0) (A9 1) (A9 2) (A9 3) (A9 4) (A9 5) (A9 6) (A9 7) (A9 8) (A9 9), oX3 (a 0) (a 1) (a 2) (Pn P), arN X (a 1) 6 b, oX0 (a 2) (a 3) (a 4) (a 5) (Px P) (Pk P), arI X (a 3) 20 (Pa P), arI X (a 4) 20 (Pb P), arI X (a 5) 20 (Pd P)] ++ ((lsW b (PL P))))) ([.ref xo] : List Value).toArray s9 0 0 A9) (F0 m9 4 ls []) := by
    intro n
    induction n with
    | zero => intro U sm ix hn; exact absurd hn (Nat.not_lt_zero _)
    | succ n ih4 =>
      intro U sm ix hn4 iv4_0 iv4_1 H locs ls hw hl
      refine lv_iload_n Ex Eb dX7_totalInterestAhead_4 rfl (lv_at hl 2 rfl) ?_
      refine lv_aload_n Ex Eb dX7_totalInterestAhead_5 rfl (lv_at hl 0 rfl) ?_
      refine lo_get E hK hw huRX7 2 hf20 rfl 0 rfl rfl (by decide) (v := .ref (a 0)) rfl dX7_totalInterestAhead_6 ?_
      refine lo_get E hK hw huRX3 2 hf100 rfl 2 rfl rfl (by decide) (v := .int (iI (Pn P))) rfl dX7_totalInterestAhead_9 ?_
      refine lo_icmp_ge (tgt := 43) E dX7_totalInterestAhead_12 (by decide) (by omega) (by omega) (fun c1 => ?_) (fun c1 => ?_)
      · skip
        refine lv_iload_n Ex Eb dX7_totalInterestAhead_43 rfl (lv_at hl 1 rfl) ?_
        exact lo_iret E hRt hLk hK hAe hw dX7_totalInterestAhead_44 rfl ⟨U, (trivial), by rw [iv4_1, show ix = Pn P by omega], rfl⟩
      · skip
        refine lv_iload_n Ex Eb dX7_totalInterestAhead_15 rfl (lv_at hl 2 rfl) ?_
        refine lv_bipush (v := iI 6) Ex Eb dX7_totalInterestAhead_16 rfl ?_
        refine lo_icmp_ge (tgt := 43) E dX7_totalInterestAhead_18 (by decide) (by omega) (by omega) (fun c2 => ?_) (fun c2 => ?_)
        · skip
          refine lv_iload_n Ex Eb dX7_totalInterestAhead_43 rfl (lv_at hl 1 rfl) ?_
          exact lo_iret E hRt hLk hK hAe hw dX7_totalInterestAhead_44 rfl ⟨U, (trivial), by rw [iv4_1, show ix = Pn P by omega], rfl⟩
        · skip
          have hLi := hL ix.toNat (by omega)
          obtain ⟨⟨hb0, hb1⟩, ⟨hr0, hr1⟩, ⟨hc0, hc1⟩, ⟨hm0, hm1⟩, ⟨hi0, hi1⟩, ⟨hs0, hs1⟩, hop, hcl⟩ := id hLi
          refine lv_iload_n Ex Eb dX7_totalInterestAhead_21 rfl (lv_at hl 1 rfl) ?_
          refine lv_aload_n Ex Eb dX7_totalInterestAhead_22 rfl (lv_at hl 0 rfl) ?_
          refine lv_aload_n Ex Eb dX7_totalInterestAhead_23 rfl (lv_at hl 0 rfl) ?_
          refine lo_get E hK hw huRX7 2 hf20 rfl 0 rfl rfl (by decide) (v := .ref (a 0)) rfl dX7_totalInterestAhead_24 ?_
          refine lo_get E hK hw huRX3 0 hf260 rfl 2 rfl rfl (by decide) (v := .ref (a 1)) rfl dX7_totalInterestAhead_27 ?_
          refine lv_iload_n Ex Eb dX7_totalInterestAhead_30 rfl (lv_at hl 2 rfl) ?_
          refine lo_aldN E hK hw 3 rfl (by omega) dX7_totalInterestAhead_31 ?_
          refine lo_callV (q0 := 0) (rest := [.int (iI sm)]) E hK hw (kX7_interestToCome l X xo xi xh xs xr xt xl xa xc isz sv (a 0) (b ix.toNat) U (PL P ix.toNat) (hLi)) (cwV 1 E.2.2.2.2 gX7_totalInterestAhead_X7_interestToCome rfl rfl rfl (by decide +kernel) ⟨Nat.le_of_ble_eq_true rfl, Nat.le_of_ble_eq_true rfl⟩) rfl rfl [0, 1, 8 + ix.toNat] (lo_ps_cons rfl (lo_ps_cons rfl (lo_ps_cons (lsW_atE (k := 8) rfl (by omega)) lo_ps_nil))) (by simp [va_nd]; try omega) hl.1 rfl rfl (Nat.le_of_ble_eq_true rfl) dX7_totalInterestAhead_32 ⟨Nat.le_of_ble_eq_true rfl, Nat.le_of_ble_eq_true rfl⟩ (fun v w1 H locs hq hw => ?_)
          obtain ⟨rfl, rfl⟩ := hq
          have hw := lo_cast (lsW_k (k := 8) (ps := [0, 1]) (w1 := [oX7 xo xi isz (a 0) xh xs sv xr xt xl xa xc, oX2 xa (runL 120 (PL P ix.toNat) 0) (runL 120 (PL P ix.toNat) 1) (runL 120 (PL P ix.toNat) 2) (runL 120 (PL P ix.toNat) 3) (runL 120 (PL P ix.toNat) 4) (runL 120 (PL P ix.toNat) 5) (runL 120 (PL P ix.toNat) 6) (runL 120 (PL P ix.toNat) 7) (runL 120 (PL P ix.toNat) 8) (runL 120 (PL P ix.toNat) 9)]) rfl (by omega) (by decide) rfl rfl) hw
          have hw : lo_Wd X ([oX7 xo xi isz (a 0) xh xs sv xr xt xl xa xc, oX2 xa (runL 120 (PL P ix.toNat) 0) (runL 120 (PL P ix.toNat) 1) (runL 120 (PL P ix.toNat) 2) (runL 120 (PL P ix.toNat) 3) (runL 120 (PL P ix.toNat) 4) (runL 120 (PL P ix.toNat) 5) (runL 120 (PL P ix.toNat) 6) (runL 120 (PL P ix.toNat) 7) (runL 120 (PL P ix.toNat) 8) (runL 120 (PL P ix.toNat) 9), oX3 (a 0) (a 1) (a 2) (Pn P), arN X (a 1) 6 b, oX0 (a 2) (a 3) (a 4) (a 5) (Px P) (Pk P), arI X (a 3) 20 (Pa P), arI X (a 4) 20 (Pb P), arI X (a 5) 20 (Pd P)] ++ ((lsW b (PL P)))) A9 s9.heap H locs := hw
          refine W.eq (g2 := F0 m9 35 ls [.int (iI (runL 120 (PL P ix.toNat) 6 - (PL P ix.toNat) 6)), .int (iI sm)]) rfl ?_
          refine lo_iadd E dX7_totalInterestAhead_35 ?_
          refine lv_istore_n (lv' := [(1, .int (iI (sm + (runL 120 (PL P ix.toNat) 6 - (PL P ix.toNat) 6)))), (0, .ref xo), (2, .int (iI ix))]) Ex Eb dX7_totalInterestAhead_36 rfl hl (by decide) rfl (fun ls hl => ?_)
          refine lo_iinc (lv' := [(2, .int (iI (ix + 1))), (1, .int (iI (sm + (runL 120 (PL P ix.toNat) 6 - (PL P ix.toNat) 6)))), (0, .ref xo)]) E dX7_totalInterestAhead_37 hl (k := 2) rfl (by decide) rfl (fun ls hl => ?_)
          refine lv_goto (tgt := 4) Ex Eb dX7_totalInterestAhead_40 (by decide) ?_
          exact ih4 (runL 120 (PL P ix.toNat)) (sm + (runL 120 (PL P ix.toNat) 6 - (PL P ix.toNat) 6)) (ix + 1) (by omega) (by omega) (by rw [sumF_s (by omega), ← iv4_1]) _ _ _ hw (lv_sub hl [2, 1, 0] rfl)
  exact lp4 _ A0 0 0 (Nat.lt_succ_self _) (by omega) (rfl) _ _ _ hw (lv_sub hl [2, 1, 0] rfl)
