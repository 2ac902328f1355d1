set_option maxHeartbeats 4000000 in
set_option maxRecDepth 100000 in
theorem kX7_violations (l : Launch) (X : KX) (xo xi xh xs xr xt xl xa xc : Nat) (isz sv : Int) (A0 : Nat → Int) (a b : Nat → Nat) (P : PT) (hPI : PI P) : CM l X yX7_violations wsX7_violations ({ frames := 4, cells := 0, slots := 0, locals := 88 }) [.ref xo] ([oX7 xo xi isz (a 0) xh xs sv xr xt xl xa xc, oX2 xa (A0 0) (A0 1) (A0 2) (A0 3) (A0 4) (A0 5) (A0 6) (A0 7) (A0 8) (A0 9), oX3 (a 0) (a 1) (a 2) (Pn P), arN X (a 1) 6 b, oX0 (a 2) (a 3) (a 4) (a 5) (Px P) (Pk P), arI X (a 3) 20 (Pa P), arI X (a 4) 20 (Pb P), arI X (a 5) 20 (Pd P)] ++ ((lsW b (PL P)))) (fun v9 w9 => ∃ A9 : Nat → Int, (True) ∧ v9 = some (.int (iI (plBad P (Pn P).toNat))) ∧ w9 = [oX7 xo xi isz (a 0) xh xs sv xr xt xl xa xc, oX2 xa (A9 0) (A9 1) (A9 2) (A9 3) (A9 4) (A9 5) (A9 6) (A9 7) (A9 8) (A9 9), oX3 (a 0) (a 1) (a 2) (Pn P), arN X (a 1) 6 b, oX0 (a 2) (a 3) (a 4) (a 5) (Px P) (Pk P), arI X (a 3) 20 (Pa P), arI X (a 4) 20 (Pb P), arI X (a 5) 20 (Pd P)] ++ ((lsW b (PL P)))) 0 0 := by
  refine lo_enter (cc := cX7_violations) (maxL := 4) (ret := (some .int)) (lv := [(0, .ref xo)]) (by decide) rfl rfl (Nat.le_of_ble_eq_true rfl) ?_
  intro p9 e9 s9 m9 bl9 me9 c9 A9 ls hAe E hRt hLk hK hl hw
  have Ex := E.1
  have Eb := E.2.1
  have huRX7 : ∀ w ∈ u_ws RX7 TX7 11, w ∈ wsX7_violations := by decide +kernel
  have hf20 : (Cond.fieldLink RX7 20 "LoanSchedule" "plan" "LLoanSchedule$Plan;").before _ s9 = true := E.2.2.2.2 _ (List.mem_of_getElem? (i := 1) rfl)
  have huRX3 : ∀ w ∈ u_ws RX3 TX3 3, w ∈ wsX7_violations := by decide +kernel
  have hf100 : (Cond.fieldLink RX7 100 "LoanSchedule$Plan" "count" "I").before _ s9 = true := E.2.2.2.2 _ (List.mem_of_getElem? (i := 2) rfl)
  have hf260 : (Cond.fieldLink RX7 260 "LoanSchedule$Plan" "loans" "[LLoanSchedule$Loan;").before _ s9 = true := E.2.2.2.2 _ (List.mem_of_getElem? (i := 3) rfl)
  have huRX2 : ∀ w ∈ u_ws RX2 TX2 10, w ∈ wsX7_violations := by decide +kernel
  have hf182 : (Cond.fieldLink RX7 182 "LoanSchedule$Loan" "principal" "I").before _ s9 = true := E.2.2.2.2 _ (List.mem_of_getElem? (i := 4) rfl)
  have hf197 : (Cond.fieldLink RX7 197 "LoanSchedule$Loan" "interestSum" "I").before _ s9 = true := E.2.2.2.2 _ (List.mem_of_getElem? (i := 5) rfl)
  have hf200 : (Cond.fieldLink RX7 200 "LoanSchedule$Loan" "paidSum" "I").before _ s9 = true := E.2.2.2.2 _ (List.mem_of_getElem? (i := 6) rfl)
  have hf137 : (Cond.fieldLink RX7 137 "LoanSchedule$Loan" "balance" "I").before _ s9 = true := E.2.2.2.2 _ (List.mem_of_getElem? (i := 7) rfl)
  have hf188 : (Cond.fieldLink RX7 188 "LoanSchedule$Loan" "carry" "I").before _ s9 = true := E.2.2.2.2 _ (List.mem_of_getElem? (i := 8) rfl)
  have hc286 : (Cond.constant RX7 286 (120000)).before _ s9 = true := E.2.2.2.2 _ (List.mem_of_getElem? (i := 9) rfl)
  have hf185 : (Cond.fieldLink RX7 185 "LoanSchedule$Loan" "installment" "I").before _ s9 = true := E.2.2.2.2 _ (List.mem_of_getElem? (i := 10) rfl)
  obtain ⟨⟨hn0, hn1⟩, ⟨hx0, hx1⟩, ⟨hk0, hk1⟩, hL⟩ := id hPI
  refine lv_iconst (v := iI 0) Ex Eb dX7_violations_0 rfl ?_
  refine lv_istore_n (lv' := [(1, .int (iI 0)), (0, .ref xo)]) Ex Eb dX7_violations_1 rfl hl (by decide) rfl (fun ls hl => ?_)
  refine lv_iconst (v := iI 0) Ex Eb dX7_violations_2 rfl ?_
  refine lv_istore_n (lv' := [(2, .int (iI 0)), (1, .int (iI 0)), (0, .ref xo)]) Ex Eb dX7_violations_3 rfl hl (by decide) rfl (fun ls hl => ?_)
  have lp4 : ∀ (n : Nat) (U : Nat → Int) (sm ix : Int), (Pn P - ix).toNat < n → (0 ≤ ix ∧ ix ≤ Pn P) → (sm = plBad P ix.toNat) → ∀ (H : Heap) (locs : List Loc) (ls : Array Slot), lo_Wd X ([oX7 xo xi isz (a 0) xh xs sv xr xt xl xa xc, oX2 xa (U 0) (U 1) (U 2) (U 3) (U 4) (U 5) (U 6) (U 7) (U 8) (U 9), oX3 (a 0) (a 1) (a 2) (Pn P), arN X (a 1) 6 b, oX0 (a 2) (a 3) (a 4) (a 5) (Px P) (Pk P), arI X (a 3) 20 (Pa P), arI X (a 4) 20 (Pb P), arI X (a 5) 20 (Pd P)] ++ ((lsW b (PL P)))) A9 s9.heap H locs → lv_has ls 4 [(0, .ref xo), (1, .int (iI sm)), (2, .int (iI ix))] → W p9 l e9 ({ frames := 4, cells := 0, slots := 0, locals := 88 } : Room) s9 m9 ([.ref xo] : List Value).toArray bl9 me9 c9 H locs 0 0 (MQ bl9 (lo_Qc X ([oX7 xo xi isz (a 0) xh xs sv xr xt xl xa xc, oX2 xa (A0 0) (A0 1) (A0 2) (A0 3) (A0 4) (A0 5) (A0 6) (A0 7) (A0 8) (A0 9), oX3 (a 0) (a 1) (a 2) (Pn P), arN X (a 1) 6 b, oX0 (a 2) (a 3) (a 4) (a 5) (Px P) (Pk P), arI X (a 3) 20 (Pa P), arI X (a 4) 20 (Pb P), arI X (a 5) 20 (Pd P)] ++ ((lsW b (PL P)))) s9.heap.size (fun v9 w9 => ∃ A9 : Nat → Int, (True) ∧ v9 = some (.int (iI (plBad P (Pn P).toNat))) ∧ w9 = [oX7 xo xi isz (a 0) xh xs sv xr xt xl xa xc, oX2 xa (A9 0) (A9 1) (A9 2) (A9 3) (A9 4) (A9 5) (A9 6) (A9 7) (A9 8) (A9 9), oX3 (a 0) (a 1) (a 2) (Pn P), arN X (a 1) 6 b, oX0 (a 2) (a 3) (a 4) (a 5) (Px P) (Pk P), arI X (a 3) 20 (Pa P), arI X (a 4) 20 (Pb P), arI X (a 5) 20 (Pd P)] ++ ((lsW b (PL P))))) ([.ref xo] : List Value).toArray s9 0 0 A9) (F0 m9 4 ls []) := by
    intro n
    induction n with
    | zero => intro U sm ix hn; exact absurd hn (Nat.not_lt_zero _)
    | succ n ih4 =>
      intro U sm ix hn4 iv4_0 iv4_1 H locs ls hw hl
      refine lv_iload_n Ex Eb dX7_violations_4 rfl (lv_at hl 2 rfl) ?_
      refine lv_aload_n Ex Eb dX7_violations_5 rfl (lv_at hl 0 rfl) ?_
      refine lo_get E hK hw huRX7 2 hf20 rfl 0 rfl rfl (by decide) (v := .ref (a 0)) rfl dX7_violations_6 ?_
      refine lo_get E hK hw huRX3 2 hf100 rfl 2 rfl rfl (by decide) (v := .int (iI (Pn P))) rfl dX7_violations_9 ?_
      refine lo_icmp_ge (tgt := 103) E dX7_violations_12 (by decide) (by omega) (by omega) (fun c1 => ?_) (fun c1 => ?_)
      · skip
        refine lv_iload_n Ex Eb dX7_violations_103 rfl (lv_at hl 1 rfl) ?_
        exact lo_iret E hRt hLk hK hAe hw dX7_violations_104 rfl ⟨U, (trivial), by rw [iv4_1, show ix = Pn P by omega], rfl⟩
      · skip
        refine lv_iload_n Ex Eb dX7_violations_15 rfl (lv_at hl 2 rfl) ?_
        refine lv_bipush (v := iI 6) Ex Eb dX7_violations_16 rfl ?_
        refine lo_icmp_ge (tgt := 103) E dX7_violations_18 (by decide) (by omega) (by omega) (fun c2 => ?_) (fun c2 => ?_)
        · skip
          refine lv_iload_n Ex Eb dX7_violations_103 rfl (lv_at hl 1 rfl) ?_
          exact lo_iret E hRt hLk hK hAe hw dX7_violations_104 rfl ⟨U, (trivial), by rw [iv4_1, show ix = Pn P by omega], rfl⟩
        · skip
          refine lv_aload_n Ex Eb dX7_violations_21 rfl (lv_at hl 0 rfl) ?_
          refine lo_get E hK hw huRX7 2 hf20 rfl 0 rfl rfl (by decide) (v := .ref (a 0)) rfl dX7_violations_22 ?_
          refine lo_get E hK hw huRX3 0 hf260 rfl 2 rfl rfl (by decide) (v := .ref (a 1)) rfl dX7_violations_25 ?_
          refine lv_iload_n Ex Eb dX7_violations_28 rfl (lv_at hl 2 rfl) ?_
          refine lo_aldN E hK hw 3 rfl (by omega) dX7_violations_29 ?_
          have hLi := hL ix.toNat (by omega)
          obtain ⟨⟨hb0, hb1⟩, ⟨hr0, hr1⟩, ⟨hc0, hc1⟩, ⟨hm0, hm1⟩, ⟨hi0, hi1⟩, ⟨hs0, hs1⟩, hop, hcl⟩ := id hLi
          refine lv_astore_n (lv' := [(3, .ref (b ix.toNat)), (0, .ref xo), (1, .int (iI sm)), (2, .int (iI ix))]) Ex Eb dX7_violations_30 rfl hl (by decide) rfl (fun ls hl => ?_)
          refine lv_aload_n Ex Eb dX7_violations_31 rfl (lv_at hl 0 rfl) ?_
          refine lo_get E hK hw huRX2 0 hf182 rfl (8 + ix.toNat) (lsW_atE (k := 8) rfl (by omega)) rfl (by decide) (v := .int (iI (PL P ix.toNat 0))) rfl dX7_violations_32 ?_
          refine lv_aload_n Ex Eb dX7_violations_35 rfl (lv_at hl 0 rfl) ?_
          refine lo_get E hK hw huRX2 6 hf197 rfl (8 + ix.toNat) (lsW_atE (k := 8) rfl (by omega)) rfl (by decide) (v := .int (iI (PL P ix.toNat 6))) rfl dX7_violations_36 ?_
          refine lo_iadd E dX7_violations_39 ?_
          refine lv_aload_n Ex Eb dX7_violations_40 rfl (lv_at hl 0 rfl) ?_
          refine lo_get E hK hw huRX2 7 hf200 rfl (8 + ix.toNat) (lsW_atE (k := 8) rfl (by omega)) rfl (by decide) (v := .int (iI (PL P ix.toNat 7))) rfl dX7_violations_41 ?_
          refine lo_isub E dX7_violations_44 ?_
          refine lv_aload_n Ex Eb dX7_violations_45 rfl (lv_at hl 0 rfl) ?_
          refine lo_get E hK hw huRX2 1 hf137 rfl (8 + ix.toNat) (lsW_atE (k := 8) rfl (by omega)) rfl (by decide) (v := .int (iI (PL P ix.toNat 1))) rfl dX7_violations_46 ?_
          refine lo_icmp_eq (tgt := 55) E dX7_violations_49 (by decide) (by omega) (by omega) (fun c3 => ?_) (fun c3 => ?_)
          · skip
            refine lv_aload_n Ex Eb dX7_violations_55 rfl (lv_at hl 0 rfl) ?_
            refine lo_get E hK hw huRX2 5 hf188 rfl (8 + ix.toNat) (lsW_atE (k := 8) rfl (by omega)) rfl (by decide) (v := .int (iI (PL P ix.toNat 5))) rfl dX7_violations_56 ?_
            refine lo_if_lt (tgt := 72) E dX7_violations_59 (by decide) (by omega) (fun c4 => ?_) (fun c4 => ?_)
            · exact absurd c4 (by omega)
            · skip
              refine lv_aload_n Ex Eb dX7_violations_62 rfl (lv_at hl 0 rfl) ?_
              refine lo_get E hK hw huRX2 5 hf188 rfl (8 + ix.toNat) (lsW_atE (k := 8) rfl (by omega)) rfl (by decide) (v := .int (iI (PL P ix.toNat 5))) rfl dX7_violations_63 ?_
              refine lo_ldcw (z := 120000) E hc286 dX7_violations_66 rfl ?_
              refine lo_icmp_lt (tgt := 75) E dX7_violations_69 (by decide) (by omega) (by omega) (fun c5 => ?_) (fun c5 => ?_)
              · skip
                refine lv_aload_n Ex Eb dX7_violations_75 rfl (lv_at hl 0 rfl) ?_
                refine lo_callV (q0 := (8 + ix.toNat)) (rest := []) E hK hw (kX2_isRunning l X (b ix.toNat) (PL P ix.toNat) (by omega)) (cwV 0 E.2.2.2.2 gX7_violations_X2_isRunning rfl rfl rfl (by decide +kernel) ⟨Nat.le_of_ble_eq_true rfl, Nat.le_of_ble_eq_true rfl⟩) (lsW_atE (k := 8) rfl (by omega)) rfl [8 + ix.toNat] (lo_ps_cons (lsW_atE (k := 8) rfl (by omega)) lo_ps_nil) (by simp [va_nd]) hl.1 rfl rfl (Nat.le_of_ble_eq_true rfl) dX7_violations_76 ⟨Nat.le_of_ble_eq_true rfl, Nat.le_of_ble_eq_true rfl⟩ (fun v w1 H locs hq hw => ?_)
                obtain ⟨r6, q76_0, rfl, rfl⟩ := hq
                have hw := lo_cast (lsW_cE0 (k := 8) rfl (by omega)) hw
                have hw : lo_Wd X ([oX7 xo xi isz (a 0) xh xs sv xr xt xl xa xc, oX2 xa (U 0) (U 1) (U 2) (U 3) (U 4) (U 5) (U 6) (U 7) (U 8) (U 9), oX3 (a 0) (a 1) (a 2) (Pn P), arN X (a 1) 6 b, oX0 (a 2) (a 3) (a 4) (a 5) (Px P) (Pk P), arI X (a 3) 20 (Pa P), arI X (a 4) 20 (Pb P), arI X (a 5) 20 (Pd P)] ++ ((lsW b (PL P)))) A9 s9.heap H locs := hw
                refine W.eq (g2 := F0 m9 79 ls [.int (iI r6)]) rfl ?_
                refine lo_if_eq (tgt := 97) E dX7_violations_79 (by decide) (by omega) (fun c7 => ?_) (fun c7 => ?_)
                · skip
                  refine lo_iinc (lv' := [(2, .int (iI (ix + 1))), (3, .ref (b ix.toNat)), (0, .ref xo), (1, .int (iI sm))]) E dX7_violations_97 hl (k := 3) rfl (by decide) rfl (fun ls hl => ?_)
                  refine lv_goto (tgt := 4) Ex Eb dX7_violations_100 (by decide) ?_
                  exact ih4 U sm (ix + 1) (by omega) (by omega) (by first | (rw [plBad_y (by omega) (by omega), ← iv4_1]) | (rw [plBad_n (by omega) (by omega), ← iv4_1]) | (exfalso; omega)) _ _ _ hw (lv_sub hl [2, 3, 0] rfl)
                · skip
                  have hla := lastL_r 120 (PL P ix.toNat) 0 hLi (by omega) (by omega)
                  refine lv_aload_n Ex Eb dX7_violations_82 rfl (lv_at hl 1 rfl) ?_
                  refine lv_aload_n Ex Eb dX7_violations_83 rfl (lv_at hl 0 rfl) ?_
                  refine lo_callV (q0 := 0) (rest := []) E hK hw (kX7_lastPayment l X xo xi xh xs xr xt xl xa xc isz sv (a 0) (b ix.toNat) U (PL P ix.toNat) (hLi)) (cwV 1 E.2.2.2.2 gX7_violations_X7_lastPayment rfl rfl rfl (by decide +kernel) ⟨Nat.le_of_ble_eq_true rfl, Nat.le_of_ble_eq_true rfl⟩) rfl rfl [0, 1, 8 + ix.toNat] (lo_ps_cons rfl (lo_ps_cons rfl (lo_ps_cons (lsW_atE (k := 8) rfl (by omega)) lo_ps_nil))) (by simp [va_nd]; try omega) hl.1 rfl rfl (Nat.le_of_ble_eq_true rfl) dX7_violations_84 ⟨Nat.le_of_ble_eq_true rfl, Nat.le_of_ble_eq_true rfl⟩ (fun v w1 H locs hq hw => ?_)
                  obtain ⟨rfl, rfl⟩ := hq
                  have hw := lo_cast (lsW_k (k := 8) (ps := [0, 1]) (w1 := [oX7 xo xi isz (a 0) xh xs sv xr xt xl xa xc, oX2 xa (runL 120 (PL P ix.toNat) 0) (runL 120 (PL P ix.toNat) 1) (runL 120 (PL P ix.toNat) 2) (runL 120 (PL P ix.toNat) 3) (runL 120 (PL P ix.toNat) 4) (runL 120 (PL P ix.toNat) 5) (runL 120 (PL P ix.toNat) 6) (runL 120 (PL P ix.toNat) 7) (runL 120 (PL P ix.toNat) 8) (runL 120 (PL P ix.toNat) 9)]) rfl (by omega) (by decide) rfl rfl) hw
                  have hw : lo_Wd X ([oX7 xo xi isz (a 0) xh xs sv xr xt xl xa xc, oX2 xa (runL 120 (PL P ix.toNat) 0) (runL 120 (PL P ix.toNat) 1) (runL 120 (PL P ix.toNat) 2) (runL 120 (PL P ix.toNat) 3) (runL 120 (PL P ix.toNat) 4) (runL 120 (PL P ix.toNat) 5) (runL 120 (PL P ix.toNat) 6) (runL 120 (PL P ix.toNat) 7) (runL 120 (PL P ix.toNat) 8) (runL 120 (PL P ix.toNat) 9), oX3 (a 0) (a 1) (a 2) (Pn P), arN X (a 1) 6 b, oX0 (a 2) (a 3) (a 4) (a 5) (Px P) (Pk P), arI X (a 3) 20 (Pa P), arI X (a 4) 20 (Pb P), arI X (a 5) 20 (Pd P)] ++ ((lsW b (PL P)))) A9 s9.heap H locs := hw
                  refine W.eq (g2 := F0 m9 87 ls [.int (iI (lastL 120 (PL P ix.toNat) 0))]) rfl ?_
                  refine lv_aload_n Ex Eb dX7_violations_87 rfl (lv_at hl 0 rfl) ?_
                  refine lo_get E hK hw huRX2 4 hf185 rfl (8 + ix.toNat) (lsW_atE (k := 8) rfl (by omega)) rfl (by decide) (v := .int (iI (PL P ix.toNat 4))) rfl dX7_violations_88 ?_
                  refine lo_icmp_le (tgt := 97) E dX7_violations_91 (by decide) (by omega) (by omega) (fun c8 => ?_) (fun c8 => ?_)
                  · skip
                    refine lo_iinc (lv' := [(2, .int (iI (ix + 1))), (3, .ref (b ix.toNat)), (0, .ref xo), (1, .int (iI sm))]) E dX7_violations_97 hl (k := 3) rfl (by decide) rfl (fun ls hl => ?_)
                    refine lv_goto (tgt := 4) Ex Eb dX7_violations_100 (by decide) ?_
                    exact ih4 (runL 120 (PL P ix.toNat)) sm (ix + 1) (by omega) (by omega) (by first | (rw [plBad_y (by omega) (by omega), ← iv4_1]) | (rw [plBad_n (by omega) (by omega), ← iv4_1]) | (exfalso; omega)) _ _ _ hw (lv_sub hl [2, 3, 0] rfl)
                  · skip
                    refine lo_iinc (lv' := [(1, .int (iI (sm + 1))), (3, .ref (b ix.toNat)), (0, .ref xo), (2, .int (iI ix))]) E dX7_violations_94 hl (k := 2) rfl (by decide) rfl (fun ls hl => ?_)
                    refine lo_iinc (lv' := [(2, .int (iI (ix + 1))), (1, .int (iI (sm + 1))), (3, .ref (b ix.toNat)), (0, .ref xo)]) E dX7_violations_97 hl (k := 3) rfl (by decide) rfl (fun ls hl => ?_)
                    refine lv_goto (tgt := 4) Ex Eb dX7_violations_100 (by decide) ?_
                    exact ih4 (runL 120 (PL P ix.toNat)) (sm + 1) (ix + 1) (by omega) (by omega) (by first | (rw [plBad_y (by omega) (by omega), ← iv4_1]) | (rw [plBad_n (by omega) (by omega), ← iv4_1]) | (exfalso; omega)) _ _ _ hw (lv_sub hl [3, 1, 0] rfl)
              · exact absurd c5 (by omega)
          · exact absurd c3 (by omega)
  exact lp4 _ A0 0 0 (Nat.lt_succ_self _) (by omega) (rfl) _ _ _ hw (lv_sub hl [2, 1, 0] rfl)
