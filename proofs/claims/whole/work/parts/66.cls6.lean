set_option maxHeartbeats 4000000 in
set_option maxRecDepth 100000 in
theorem kX7_averageRate (l : Launch) (X : KX) (xo xi xh xs xr xt xl xa xc : Nat) (isz sv : Int) (a b : Nat → Nat) (P : PT) (hPI : PI P) : CM l X yX7_averageRate wsX7_averageRate ({ frames := 1, cells := 0, slots := 0, locals := 22 }) [.ref xo] ([oX7 xo xi isz (a 0) xh xs sv xr xt xl xa xc, oX3 (a 0) (a 1) (a 2) (Pn P), arN X (a 1) 6 b, oX0 (a 2) (a 3) (a 4) (a 5) (Px P) (Pk P), arI X (a 3) 20 (Pa P), arI X (a 4) 20 (Pb P), arI X (a 5) 20 (Pd P)] ++ ((lsW b (PL P)))) (fun v9 w9 => ∃ z : UInt64, ((sumF (fun i => PL P i 1) (Pn P).toNat = 0 ∧ z = FP.dconst0) ∨ (sumF (fun i => PL P i 1) (Pn P).toNat ≠ 0 ∧ z = FP.ddiv (FP.l2d (iL (sumF (fun k => PL P k 1 * PL P k 2) (Pn P).toNat))) (FP.i2d (iI (sumF (fun i => PL P i 1) (Pn P).toNat))))) ∧ v9 = some (.double z) ∧ w9 = [oX7 xo xi isz (a 0) xh xs sv xr xt xl xa xc, oX3 (a 0) (a 1) (a 2) (Pn P), arN X (a 1) 6 b, oX0 (a 2) (a 3) (a 4) (a 5) (Px P) (Pk P), arI X (a 3) 20 (Pa P), arI X (a 4) 20 (Pb P), arI X (a 5) 20 (Pd P)] ++ ((lsW b (PL P)))) 0 0 := by
  refine lo_enter (cc := cX7_averageRate) (maxL := 4) (ret := (some .double)) (lv := [(0, .ref xo)]) (by decide) rfl rfl (Nat.le_of_ble_eq_true rfl) ?_
  intro p9 e9 s9 m9 bl9 me9 c9 A9 ls hAe E hRt hLk hK hl hw
  have Ex := E.1
  have Eb := E.2.1
  have huRX7 : ∀ w ∈ u_ws RX7 TX7 11, w ∈ wsX7_averageRate := by decide +kernel
  have hf20 : (Cond.fieldLink RX7 20 "LoanSchedule" "plan" "LLoanSchedule$Plan;").before _ s9 = true := E.2.2.2.2 _ (List.mem_of_getElem? (i := 1) rfl)
  have huRX3 : ∀ w ∈ u_ws RX3 TX3 3, w ∈ wsX7_averageRate := by decide +kernel
  have hf100 : (Cond.fieldLink RX7 100 "LoanSchedule$Plan" "count" "I").before _ s9 = true := E.2.2.2.2 _ (List.mem_of_getElem? (i := 2) rfl)
  have hf260 : (Cond.fieldLink RX7 260 "LoanSchedule$Plan" "loans" "[LLoanSchedule$Loan;").before _ s9 = true := E.2.2.2.2 _ (List.mem_of_getElem? (i := 3) rfl)
  have huRX2 : ∀ w ∈ u_ws RX2 TX2 10, w ∈ wsX7_averageRate := by decide +kernel
  have hf137 : (Cond.fieldLink RX7 137 "LoanSchedule$Loan" "balance" "I").before _ s9 = true := E.2.2.2.2 _ (List.mem_of_getElem? (i := 4) rfl)
  have hf156 : (Cond.fieldLink RX7 156 "LoanSchedule$Loan" "rate" "I").before _ s9 = true := E.2.2.2.2 _ (List.mem_of_getElem? (i := 5) rfl)
  obtain ⟨⟨hn0, hn1⟩, ⟨hx0, hx1⟩, ⟨hk0, hk1⟩, hL⟩ := id hPI
  have hSB := sumB_r hPI (Pn P).toNat (by omega)
  refine lv_lconst (v := iL 0) Ex Eb dX7_averageRate_0 rfl ?_
  refine lv_lstore_n (lv' := [(1, .long (iL 0)), (0, .ref xo)]) Ex Eb dX7_averageRate_1 rfl hl (by decide) rfl (fun ls hl => ?_)
  refine lv_iconst (v := iI 0) Ex Eb dX7_averageRate_2 rfl ?_
  refine lv_istore_n (lv' := [(3, .int (iI 0)), (1, .long (iL 0)), (0, .ref xo)]) Ex Eb dX7_averageRate_3 rfl hl (by decide) rfl (fun ls hl => ?_)
  have lp4 : ∀ (n : Nat) (sm ix : Int), (Pn P - ix).toNat < n → (0 ≤ ix ∧ ix ≤ Pn P) → (sm = sumF (fun k => PL P k 1 * PL P k 2) ix.toNat) → ∀ (H : Heap) (locs : List Loc) (ls : Array Slot), lo_Wd X ([oX7 xo xi isz (a 0) xh xs sv xr xt xl xa xc, oX3 (a 0) (a 1) (a 2) (Pn P), arN X (a 1) 6 b, oX0 (a 2) (a 3) (a 4) (a 5) (Px P) (Pk P), arI X (a 3) 20 (Pa P), arI X (a 4) 20 (Pb P), arI X (a 5) 20 (Pd P)] ++ ((lsW b (PL P)))) A9 s9.heap H locs → lv_has ls 4 [(0, .ref xo), (1, .long (iL sm)), (3, .int (iI ix))] → W p9 l e9 ({ frames := 1, cells := 0, slots := 0, locals := 22 } : Room) s9 m9 ([.ref xo] : List Value).toArray bl9 me9 c9 H locs 0 0 (MQ bl9 (lo_Qc X ([oX7 xo xi isz (a 0) xh xs sv xr xt xl xa xc, oX3 (a 0) (a 1) (a 2) (Pn P), arN X (a 1) 6 b, oX0 (a 2) (a 3) (a 4) (a 5) (Px P) (Pk P), arI X (a 3) 20 (Pa P), arI X (a 4) 20 (Pb P), arI X (a 5) 20 (Pd P)] ++ ((lsW b (PL P)))) s9.heap.size (fun v9 w9 => ∃ z : UInt64, ((sumF (fun i => PL P i 1) (Pn P).toNat = 0 ∧ z = FP.dconst0) ∨ (sumF (fun i => PL P i 1) (Pn P).toNat ≠ 0 ∧ z = FP.ddiv (FP.l2d (iL (sumF (fun k => PL P k 1 * PL P k 2) (Pn P).toNat))) (FP.i2d (iI (sumF (fun i => PL P i 1) (Pn P).toNat))))) ∧ v9 = some (.double z) ∧ w9 = [oX7 xo xi isz (a 0) xh xs sv xr xt xl xa xc, oX3 (a 0) (a 1) (a 2) (Pn P), arN X (a 1) 6 b, oX0 (a 2) (a 3) (a 4) (a 5) (Px P) (Pk P), arI X (a 3) 20 (Pa P), arI X (a 4) 20 (Pb P), arI X (a 5) 20 (Pd P)] ++ ((lsW b (PL P))))) ([.ref xo] : List Value).toArray s9 0 0 A9) (F0 m9 4 ls []) := by
    intro n
    induction n with
    | zero => intro sm ix hn; exact absurd hn (Nat.not_lt_zero _)
    | succ n ih4 =>
      intro sm ix hn4 iv4_0 iv4_1 H locs ls hw hl
      refine lv_iload_n Ex Eb dX7_averageRate_4 rfl (lv_at hl 2 rfl) ?_
      refine lv_aload_n Ex Eb dX7_averageRate_5 rfl (lv_at hl 0 rfl) ?_
      refine lo_get E hK hw huRX7 2 hf20 rfl 0 rfl rfl (by decide) (v := .ref (a 0)) rfl dX7_averageRate_6 ?_
      refine lo_get E hK hw huRX3 2 hf100 rfl 1 rfl rfl (by decide) (v := .int (iI (Pn P))) rfl dX7_averageRate_9 ?_
      refine lo_icmp_ge (tgt := 57) E dX7_averageRate_12 (by decide) (by omega) (by omega) (fun c1 => ?_) (fun c1 => ?_)
      · skip
        refine lv_aload_n Ex Eb dX7_averageRate_57 rfl (lv_at hl 0 rfl) ?_
        refine lo_get E hK hw huRX7 2 hf20 rfl 0 rfl rfl (by decide) (v := .ref (a 0)) rfl dX7_averageRate_58 ?_
        have hw : lo_Wd X (([oX7 xo xi isz (a 0) xh xs sv xr xt xl xa xc]) ++ ([oX3 (a 0) (a 1) (a 2) (Pn P), arN X (a 1) 6 b, oX0 (a 2) (a 3) (a 4) (a 5) (Px P) (Pk P), arI X (a 3) 20 (Pa P), arI X (a 4) 20 (Pb P), arI X (a 5) 20 (Pd P)] ++ ((lsW b (PL P))))) A9 s9.heap _ _ := hw
        refine lo_callV (q0 := 1) (rest := []) E hK hw (kX3_sumOfBalances l X a b P (hPI)) (cwV 0 E.2.2.2.2 gX7_averageRate_X3_sumOfBalances rfl rfl rfl (by decide +kernel) ⟨Nat.le_of_ble_eq_true rfl, Nat.le_of_ble_eq_true rfl⟩) rfl rfl (List.range' 1 12) (lo_ps_tail (pre := [oX7 xo xi isz (a 0) xh xs sv xr xt xl xa xc]) rfl rfl) (by decide +kernel) hl.1 rfl rfl (Nat.le_of_ble_eq_true rfl) dX7_averageRate_61 ⟨Nat.le_of_ble_eq_true rfl, Nat.le_of_ble_eq_true rfl⟩ (fun v w1 H locs hq hw => ?_)
        obtain ⟨rfl, rfl⟩ := hq
        have hw := lo_cast (lo_sets_tail (n := 12) (k := 1) (pre := [oX7 xo xi isz (a 0) xh xs sv xr xt xl xa xc]) (w0 := [oX3 (a 0) (a 1) (a 2) (Pn P), arN X (a 1) 6 b, oX0 (a 2) (a 3) (a 4) (a 5) (Px P) (Pk P), arI X (a 3) 20 (Pa P), arI X (a 4) 20 (Pb P), arI X (a 5) 20 (Pd P)] ++ ((lsW b (PL P)))) (w1 := [oX3 (a 0) (a 1) (a 2) (Pn P), arN X (a 1) 6 b, oX0 (a 2) (a 3) (a 4) (a 5) (Px P) (Pk P), arI X (a 3) 20 (Pa P), arI X (a 4) 20 (Pb P), arI X (a 5) 20 (Pd P)] ++ ((lsW b (PL P)))) rfl rfl rfl) hw
        have hw : lo_Wd X ([oX7 xo xi isz (a 0) xh xs sv xr xt xl xa xc, oX3 (a 0) (a 1) (a 2) (Pn P), arN X (a 1) 6 b, oX0 (a 2) (a 3) (a 4) (a 5) (Px P) (Pk P), arI X (a 3) 20 (Pa P), arI X (a 4) 20 (Pb P), arI X (a 5) 20 (Pd P)] ++ ((lsW b (PL P)))) A9 s9.heap H locs := hw
        refine W.eq (g2 := F0 m9 64 ls [.int (iI (sumF (fun i => PL P i 1) (Pn P).toNat))]) rfl ?_
        refine lv_istore_n (lv' := [(3, .int (iI (sumF (fun i => PL P i 1) (Pn P).toNat))), (0, .ref xo), (1, .long (iL sm))]) Ex Eb dX7_averageRate_64 rfl hl (by decide) rfl (fun ls hl => ?_)
        refine lv_iload_n Ex Eb dX7_averageRate_65 rfl (lv_at hl 0 rfl) ?_
        refine lo_if_ne (tgt := 73) E dX7_averageRate_66 (by decide) (by omega) (fun c2 => ?_) (fun c2 => ?_)
        · skip
          refine lv_lload_n Ex Eb dX7_averageRate_73 rfl (lv_at hl 2 rfl) ?_
          refine lv_l2d Ex Eb dX7_averageRate_74 ?_
          refine lv_iload_n Ex Eb dX7_averageRate_75 rfl (lv_at hl 0 rfl) ?_
          refine lv_i2d Ex Eb dX7_averageRate_76 ?_
          refine lv_ddiv Ex Eb dX7_averageRate_77 (lo_nan64 (lo_ddiv_num _ (by omega) (by omega))) ?_
          exact lo_dret E hRt hLk hK hAe hw dX7_averageRate_78 rfl ⟨FP.ddiv (FP.l2d (iL sm)) (FP.i2d (iI (sumF (fun i => PL P i 1) (Pn P).toNat))), (by have hie : ix = Pn P := (by omega); first | exact Or.inl ⟨by omega, rfl⟩ | exact Or.inr ⟨by omega, by rw [iv4_1, hie]⟩), rfl, rfl⟩
        · skip
          refine lv_dconst0 Ex Eb dX7_averageRate_69 ?_
          refine lv_goto (tgt := 78) Ex Eb dX7_averageRate_70 (by decide) ?_
          exact lo_dret E hRt hLk hK hAe hw dX7_averageRate_78 rfl ⟨FP.dconst0, (by have hie : ix = Pn P := (by omega); first | exact Or.inl ⟨by omega, rfl⟩ | exact Or.inr ⟨by omega, by rw [iv4_1, hie]⟩), rfl, rfl⟩
      · skip
        refine lv_iload_n Ex Eb dX7_averageRate_15 rfl (lv_at hl 2 rfl) ?_
        refine lv_bipush (v := iI 6) Ex Eb dX7_averageRate_16 rfl ?_
        refine lo_icmp_ge (tgt := 57) E dX7_averageRate_18 (by decide) (by omega) (by omega) (fun c3 => ?_) (fun c3 => ?_)
        · skip
          refine lv_aload_n Ex Eb dX7_averageRate_57 rfl (lv_at hl 0 rfl) ?_
          refine lo_get E hK hw huRX7 2 hf20 rfl 0 rfl rfl (by decide) (v := .ref (a 0)) rfl dX7_averageRate_58 ?_
          have hw : lo_Wd X (([oX7 xo xi isz (a 0) xh xs sv xr xt xl xa xc]) ++ ([oX3 (a 0) (a 1) (a 2) (Pn P), arN X (a 1) 6 b, oX0 (a 2) (a 3) (a 4) (a 5) (Px P) (Pk P), arI X (a 3) 20 (Pa P), arI X (a 4) 20 (Pb P), arI X (a 5) 20 (Pd P)] ++ ((lsW b (PL P))))) A9 s9.heap _ _ := hw
          refine lo_callV (q0 := 1) (rest := []) E hK hw (kX3_sumOfBalances l X a b P (hPI)) (cwV 0 E.2.2.2.2 gX7_averageRate_X3_sumOfBalances rfl rfl rfl (by decide +kernel) ⟨Nat.le_of_ble_eq_true rfl, Nat.le_of_ble_eq_true rfl⟩) rfl rfl (List.range' 1 12) (lo_ps_tail (pre := [oX7 xo xi isz (a 0) xh xs sv xr xt xl xa xc]) rfl rfl) (by decide +kernel) hl.1 rfl rfl (Nat.le_of_ble_eq_true rfl) dX7_averageRate_61 ⟨Nat.le_of_ble_eq_true rfl, Nat.le_of_ble_eq_true rfl⟩ (fun v w1 H locs hq hw => ?_)
          obtain ⟨rfl, rfl⟩ := hq
          have hw := lo_cast (lo_sets_tail (n := 12) (k := 1) (pre := [oX7 xo xi isz (a 0) xh xs sv xr xt xl xa xc]) (w0 := [oX3 (a 0) (a 1) (a 2) (Pn P), arN X (a 1) 6 b, oX0 (a 2) (a 3) (a 4) (a 5) (Px P) (Pk P), arI X (a 3) 20 (Pa P), arI X (a 4) 20 (Pb P), arI X (a 5) 20 (Pd P)] ++ ((lsW b (PL P)))) (w1 := [oX3 (a 0) (a 1) (a 2) (Pn P), arN X (a 1) 6 b, oX0 (a 2) (a 3) (a 4) (a 5) (Px P) (Pk P), arI X (a 3) 20 (Pa P), arI X (a 4) 20 (Pb P), arI X (a 5) 20 (Pd P)] ++ ((lsW b (PL P)))) rfl rfl rfl) hw
          have hw : lo_Wd X ([oX7 xo xi isz (a 0) xh xs sv xr xt xl xa xc, oX3 (a 0) (a 1) (a 2) (Pn P), arN X (a 1) 6 b, oX0 (a 2) (a 3) (a 4) (a 5) (Px P) (Pk P), arI X (a 3) 20 (Pa P), arI X (a 4) 20 (Pb P), arI X (a 5) 20 (Pd P)] ++ ((lsW b (PL P)))) A9 s9.heap H locs := hw
          refine W.eq (g2 := F0 m9 64 ls [.int (iI (sumF (fun i => PL P i 1) (Pn P).toNat))]) rfl ?_
          refine lv_istore_n (lv' := [(3, .int (iI (sumF (fun i => PL P i 1) (Pn P).toNat))), (0, .ref xo), (1, .long (iL sm))]) Ex Eb dX7_averageRate_64 rfl hl (by decide) rfl (fun ls hl => ?_)
          refine lv_iload_n Ex Eb dX7_averageRate_65 rfl (lv_at hl 0 rfl) ?_
          refine lo_if_ne (tgt := 73) E dX7_averageRate_66 (by decide) (by omega) (fun c4 => ?_) (fun c4 => ?_)
          · skip
            refine lv_lload_n Ex Eb dX7_averageRate_73 rfl (lv_at hl 2 rfl) ?_
            refine lv_l2d Ex Eb dX7_averageRate_74 ?_
            refine lv_iload_n Ex Eb dX7_averageRate_75 rfl (lv_at hl 0 rfl) ?_
            refine lv_i2d Ex Eb dX7_averageRate_76 ?_
            refine lv_ddiv Ex Eb dX7_averageRate_77 (lo_nan64 (lo_ddiv_num _ (by omega) (by omega))) ?_
            exact lo_dret E hRt hLk hK hAe hw dX7_averageRate_78 rfl ⟨FP.ddiv (FP.l2d (iL sm)) (FP.i2d (iI (sumF (fun i => PL P i 1) (Pn P).toNat))), (by have hie : ix = Pn P := (by omega); first | exact Or.inl ⟨by omega, rfl⟩ | exact Or.inr ⟨by omega, by rw [iv4_1, hie]⟩), rfl, rfl⟩
          · skip
            refine lv_dconst0 Ex Eb dX7_averageRate_69 ?_
            refine lv_goto (tgt := 78) Ex Eb dX7_averageRate_70 (by decide) ?_
            exact lo_dret E hRt hLk hK hAe hw dX7_averageRate_78 rfl ⟨FP.dconst0, (by have hie : ix = Pn P := (by omega); first | exact Or.inl ⟨by omega, rfl⟩ | exact Or.inr ⟨by omega, by rw [iv4_1, hie]⟩), rfl, rfl⟩
        · skip
          have hLi := hL ix.toNat (by omega)
          obtain ⟨⟨hb0, hb1⟩, ⟨hr0, hr1⟩, ⟨hc0, hc1⟩, ⟨hm0, hm1⟩, ⟨hi0, hi1⟩, ⟨hs0, hs1⟩, hop, hcl⟩ := id hLi
          refine lv_lload_n Ex Eb dX7_averageRate_21 rfl (lv_at hl 1 rfl) ?_
          refine lv_aload_n Ex Eb dX7_averageRate_22 rfl (lv_at hl 0 rfl) ?_
          refine lo_get E hK hw huRX7 2 hf20 rfl 0 rfl rfl (by decide) (v := .ref (a 0)) rfl dX7_averageRate_23 ?_
          refine lo_get E hK hw huRX3 0 hf260 rfl 1 rfl rfl (by decide) (v := .ref (a 1)) rfl dX7_averageRate_26 ?_
          refine lv_iload_n Ex Eb dX7_averageRate_29 rfl (lv_at hl 2 rfl) ?_
          refine lo_aldN E hK hw 2 rfl (by omega) dX7_averageRate_30 ?_
          refine lo_get E hK hw huRX2 1 hf137 rfl (7 + ix.toNat) (lsW_atE (k := 7) rfl (by omega)) rfl (by decide) (v := .int (iI (PL P ix.toNat 1))) rfl dX7_averageRate_31 ?_
          refine lo_i2l E dX7_averageRate_34 (by omega) ?_
          refine lv_aload_n Ex Eb dX7_averageRate_35 rfl (lv_at hl 0 rfl) ?_
          refine lo_get E hK hw huRX7 2 hf20 rfl 0 rfl rfl (by decide) (v := .ref (a 0)) rfl dX7_averageRate_36 ?_
          refine lo_get E hK hw huRX3 0 hf260 rfl 1 rfl rfl (by decide) (v := .ref (a 1)) rfl dX7_averageRate_39 ?_
          refine lv_iload_n Ex Eb dX7_averageRate_42 rfl (lv_at hl 2 rfl) ?_
          refine lo_aldN E hK hw 2 rfl (by omega) dX7_averageRate_43 ?_
          refine lo_get E hK hw huRX2 2 hf156 rfl (7 + ix.toNat) (lsW_atE (k := 7) rfl (by omega)) rfl (by decide) (v := .int (iI (PL P ix.toNat 2))) rfl dX7_averageRate_44 ?_
          refine lo_i2l E dX7_averageRate_47 (by omega) ?_
          refine lo_lmul E dX7_averageRate_48 ?_
          refine lo_ladd E dX7_averageRate_49 ?_
          refine lv_lstore_n (lv' := [(1, .long (iL (sm + ((PL P ix.toNat 1) * (PL P ix.toNat 2))))), (0, .ref xo), (3, .int (iI ix))]) Ex Eb dX7_averageRate_50 rfl hl (by decide) rfl (fun ls hl => ?_)
          refine lo_iinc (lv' := [(3, .int (iI (ix + 1))), (1, .long (iL (sm + ((PL P ix.toNat 1) * (PL P ix.toNat 2))))), (0, .ref xo)]) E dX7_averageRate_51 hl (k := 2) rfl (by decide) rfl (fun ls hl => ?_)
          refine lv_goto (tgt := 4) Ex Eb dX7_averageRate_54 (by decide) ?_
          exact ih4 (sm + ((PL P ix.toNat 1) * (PL P ix.toNat 2))) (ix + 1) (by omega) (by omega) (by rw [sumF_s (by omega), ← iv4_1]) _ _ _ hw (lv_sub hl [2, 1, 0] rfl)
  exact lp4 _ 0 0 (Nat.lt_succ_self _) (by omega) (rfl) _ _ _ hw (lv_sub hl [2, 1, 0] rfl)
set_option maxHeartbeats 4000000 in
set_option maxRecDepth 100000 in
theorem kX7_closedShare (l : Launch) (X : KX) (xo xi xh xs xr xt xl xa xc : Nat) (isz sv : Int) (a b : Nat → Nat) (P : PT) (hPI : PI P) : CM l X yX7_closedShare wsX7_closedShare ({ frames := 2, cells := 0, slots := 0, locals := 42 }) [.ref xo] ([oX7 xo xi isz (a 0) xh xs sv xr xt xl xa xc, oX3 (a 0) (a 1) (a 2) (Pn P), arN X (a 1) 6 b, oX0 (a 2) (a 3) (a 4) (a 5) (Px P) (Pk P), arI X (a 3) 20 (Pa P), arI X (a 4) 20 (Pb P), arI X (a 5) 20 (Pd P)] ++ ((lsW b (PL P)))) (fun v9 w9 => ∃ z : UInt32, ((Pn P = 0 ∧ z = FP.fconst0) ∨ (Pn P ≠ 0 ∧ z = FP.fdiv (FP.i2f (iI (Pn P - cnt (PL P) (Pn P).toNat))) (FP.i2f (iI (Pn P))))) ∧ v9 = some (.float z) ∧ w9 = [oX7 xo xi isz (a 0) xh xs sv xr xt xl xa xc, oX3 (a 0) (a 1) (a 2) (Pn P), arN X (a 1) 6 b, oX0 (a 2) (a 3) (a 4) (a 5) (Px P) (Pk P), arI X (a 3) 20 (Pa P), arI X (a 4) 20 (Pb P), arI X (a 5) 20 (Pd P)] ++ ((lsW b (PL P)))) 0 0 := by
  refine lo_enter (cc := cX7_closedShare) (maxL := 1) (ret := (some .float)) (lv := [(0, .ref xo)]) (by decide) rfl rfl (Nat.le_of_ble_eq_true rfl) ?_
  intro p9 e9 s9 m9 bl9 me9 c9 A9 ls hAe E hRt hLk hK hl hw
  have Ex := E.1
  have Eb := E.2.1
  have huRX7 : ∀ w ∈ u_ws RX7 TX7 11, w ∈ wsX7_closedShare := by decide +kernel
  have hf20 : (Cond.fieldLink RX7 20 "LoanSchedule" "plan" "LLoanSchedule$Plan;").before _ s9 = true := E.2.2.2.2 _ (List.mem_of_getElem? (i := 1) rfl)
  have huRX3 : ∀ w ∈ u_ws RX3 TX3 3, w ∈ wsX7_closedShare := by decide +kernel
  have hf100 : (Cond.fieldLink RX7 100 "LoanSchedule$Plan" "count" "I").before _ s9 = true := E.2.2.2.2 _ (List.mem_of_getElem? (i := 2) rfl)
  obtain ⟨⟨hn0, hn1⟩, ⟨hx0, hx1⟩, ⟨hk0, hk1⟩, hL⟩ := id hPI
  have hc0 := cnt_0 (PL P) (Pn P).toNat
  have hcm := cnt_m (PL P) (Pn P).toNat
  refine lv_aload_n Ex Eb dX7_closedShare_0 rfl (lv_at hl 0 rfl) ?_
  refine lo_get E hK hw huRX7 2 hf20 rfl 0 rfl rfl (by decide) (v := .ref (a 0)) rfl dX7_closedShare_1 ?_
  refine lo_get E hK hw huRX3 2 hf100 rfl 1 rfl rfl (by decide) (v := .int (iI (Pn P))) rfl dX7_closedShare_4 ?_
  refine lo_if_ne (tgt := 12) E dX7_closedShare_7 (by decide) (by omega) (fun c1 => ?_) (fun c1 => ?_)
  · skip
    refine lv_aload_n Ex Eb dX7_closedShare_12 rfl (lv_at hl 0 rfl) ?_
    refine lo_get E hK hw huRX7 2 hf20 rfl 0 rfl rfl (by decide) (v := .ref (a 0)) rfl dX7_closedShare_13 ?_
    refine lo_get E hK hw huRX3 2 hf100 rfl 1 rfl rfl (by decide) (v := .int (iI (Pn P))) rfl dX7_closedShare_16 ?_
    refine lv_aload_n Ex Eb dX7_closedShare_19 rfl (lv_at hl 0 rfl) ?_
    refine lo_get E hK hw huRX7 2 hf20 rfl 0 rfl rfl (by decide) (v := .ref (a 0)) rfl dX7_closedShare_20 ?_
    have hw : lo_Wd X (([oX7 xo xi isz (a 0) xh xs sv xr xt xl xa xc]) ++ ([oX3 (a 0) (a 1) (a 2) (Pn P), arN X (a 1) 6 b, oX0 (a 2) (a 3) (a 4) (a 5) (Px P) (Pk P), arI X (a 3) 20 (Pa P), arI X (a 4) 20 (Pb P), arI X (a 5) 20 (Pd P)] ++ ((lsW b (PL P))))) A9 s9.heap _ _ := hw
    refine lo_callV (q0 := 1) (rest := [.int (iI (Pn P))]) E hK hw (kX3_countRunning l X a b P (hPI)) (cwV 0 E.2.2.2.2 gX7_closedShare_X3_countRunning rfl rfl rfl (by decide +kernel) ⟨Nat.le_of_ble_eq_true rfl, Nat.le_of_ble_eq_true rfl⟩) rfl rfl (List.range' 1 12) (lo_ps_tail (pre := [oX7 xo xi isz (a 0) xh xs sv xr xt xl xa xc]) rfl rfl) (by decide +kernel) hl.1 rfl rfl (Nat.le_of_ble_eq_true rfl) dX7_closedShare_23 ⟨Nat.le_of_ble_eq_true rfl, Nat.le_of_ble_eq_true rfl⟩ (fun v w1 H locs hq hw => ?_)
    obtain ⟨rfl, rfl⟩ := hq
    have hw := lo_cast (lo_sets_tail (n := 12) (k := 1) (pre := [oX7 xo xi isz (a 0) xh xs sv xr xt xl xa xc]) (w0 := [oX3 (a 0) (a 1) (a 2) (Pn P), arN X (a 1) 6 b, oX0 (a 2) (a 3) (a 4) (a 5) (Px P) (Pk P), arI X (a 3) 20 (Pa P), arI X (a 4) 20 (Pb P), arI X (a 5) 20 (Pd P)] ++ ((lsW b (PL P)))) (w1 := [oX3 (a 0) (a 1) (a 2) (Pn P), arN X (a 1) 6 b, oX0 (a 2) (a 3) (a 4) (a 5) (Px P) (Pk P), arI X (a 3) 20 (Pa P), arI X (a 4) 20 (Pb P), arI X (a 5) 20 (Pd P)] ++ ((lsW b (PL P)))) rfl rfl rfl) hw
    have hw : lo_Wd X ([oX7 xo xi isz (a 0) xh xs sv xr xt xl xa xc, oX3 (a 0) (a 1) (a 2) (Pn P), arN X (a 1) 6 b, oX0 (a 2) (a 3) (a 4) (a 5) (Px P) (Pk P), arI X (a 3) 20 (Pa P), arI X (a 4) 20 (Pb P), arI X (a 5) 20 (Pd P)] ++ ((lsW b (PL P)))) A9 s9.heap H locs := hw
    refine W.eq (g2 := F0 m9 26 ls [.int (iI (cnt (PL P) (Pn P).toNat)), .int (iI (Pn P))]) rfl ?_
    refine lo_isub E dX7_closedShare_26 ?_
    refine lv_i2f Ex Eb dX7_closedShare_27 ?_
    refine lv_aload_n Ex Eb dX7_closedShare_28 rfl (lv_at hl 0 rfl) ?_
    refine lo_get E hK hw huRX7 2 hf20 rfl 0 rfl rfl (by decide) (v := .ref (a 0)) rfl dX7_closedShare_29 ?_
    refine lo_get E hK hw huRX3 2 hf100 rfl 1 rfl rfl (by decide) (v := .int (iI (Pn P))) rfl dX7_closedShare_32 ?_
    refine lv_i2f Ex Eb dX7_closedShare_35 ?_
    refine lv_fdiv Ex Eb dX7_closedShare_36 (lo_fdiv_n (by omega) (by omega) (by omega) (by omega)) ?_
    exact lo_fret E hRt hLk hK hAe hw dX7_closedShare_37 rfl ⟨FP.fdiv (FP.i2f (iI (Pn P - cnt (PL P) (Pn P).toNat))) (FP.i2f (iI (Pn P))), (by first | exact Or.inl ⟨by omega, rfl⟩ | exact Or.inr ⟨by omega, rfl⟩), rfl, rfl⟩
  · skip
    refine lv_fconst0 Ex Eb dX7_closedShare_10 ?_
    exact lo_fret E hRt hLk hK hAe hw dX7_closedShare_11 rfl ⟨FP.fconst0, (by first | exact Or.inl ⟨by omega, rfl⟩ | exact Or.inr ⟨by omega, rfl⟩), rfl, rfl⟩
set_option maxHeartbeats 4000000 in
set_option maxRecDepth 100000 in
theorem kX8_averageRate (l : Launch) (X : KX) (d : Nat → Nat) (M w : Nat → Int) (hWI : WI w) : CM l X yX8_averageRate wsX8_averageRate ({ frames := 2, cells := 0, slots := 0, locals := 44 }) [.ref (d 0)] ([oX8 (d 0) (M 0) (d 1) (d 2) (M 3) (d 3) (M 5) (d 4) (d 5) (d 6) (M 9) (d 7) (M 11) (M 12) (M 13) (M 14) (M 15) (M 16) (M 17) (M 18) (M 19) (M 20) (M 21) (M 22) (M 23) (M 24) (M 25) (M 26) (M 27) (M 28), arI X (d 1) 122 w]) (fun v9 w9 => ∃ z : UInt64, ((wFld w 1 (w 0).toNat = 0 ∧ z = FP.dconst0) ∨ (wFld w 1 (w 0).toNat ≠ 0 ∧ z = FP.ddiv (FP.l2d (iL (wWgt w (w 0).toNat))) (FP.i2d (iI (wFld w 1 (w 0).toNat))))) ∧ v9 = some (.double z) ∧ w9 = [oX8 (d 0) 0 (d 1) (d 2) (M 3) (d 3) (M 5) (d 4) (d 5) (d 6) (M 9) (d 7) (M 11) (M 12) (M 13) (M 14) (M 15) (M 16) (M 17) (M 18) (M 19) (M 20) (M 21) (M 22) (M 23) (M 24) (M 25) (M 26) (M 27) (M 28), arI X (d 1) 122 w]) 0 0 := by
  refine lo_enter (cc := cX8_averageRate) (maxL := 4) (ret := (some .double)) (lv := [(0, .ref (d 0))]) (by decide) rfl rfl (Nat.le_of_ble_eq_true rfl) ?_
  intro p9 e9 s9 m9 bl9 me9 c9 A9 ls hAe E hRt hLk hK hl hw
  have Ex := E.1
  have Eb := E.2.1
  have huRX8 : ∀ w ∈ u_ws RX8 TX8 29, w ∈ wsX8_averageRate := by decide +kernel
  have hf56 : (Cond.fieldLink RX8 56 "LoanScheduleModel" "thrown" "I").before _ s9 = true := E.2.2.2.2 _ (List.mem_of_getElem? (i := 1) rfl)
  have hf9 : (Cond.fieldLink RX8 9 "LoanScheduleModel" "w" "[I").before _ s9 = true := E.2.2.2.2 _ (List.mem_of_getElem? (i := 2) rfl)
  obtain ⟨⟨hn0, hn1⟩, ⟨hb0, hb1⟩, hL⟩ := id hWI
  have hSB := wFld_r hWI (w 0).toNat (by omega)
  refine lv_aload_n Ex Eb dX8_averageRate_0 rfl (lv_at hl 0 rfl) ?_
  refine lv_iconst (v := iI 0) Ex Eb dX8_averageRate_1 rfl ?_
  refine lo_put E hK hw huRX8 tyX8 tyX8_ok nmX8 0 hf56 rfl 0 rfl rfl (by decide) rfl rfl rfl rfl (Nat.le_of_ble_eq_true rfl) (ws' := [oX8 (d 0) 0 (d 1) (d 2) (M 3) (d 3) (M 5) (d 4) (d 5) (d 6) (M 9) (d 7) (M 11) (M 12) (M 13) (M 14) (M 15) (M 16) (M 17) (M 18) (M 19) (M 20) (M 21) (M 22) (M 23) (M 24) (M 25) (M 26) (M 27) (M 28), arI X (d 1) 122 w]) rfl dX8_averageRate_2 (fun H locs hw => ?_)
  refine lv_lconst (v := iL 0) Ex Eb dX8_averageRate_5 rfl ?_
  refine lv_lstore_n (lv' := [(1, .long (iL 0)), (0, .ref (d 0))]) Ex Eb dX8_averageRate_6 rfl hl (by decide) rfl (fun ls hl => ?_)
  refine lv_iconst (v := iI 0) Ex Eb dX8_averageRate_7 rfl ?_
  refine lv_istore_n (lv' := [(3, .int (iI 0)), (1, .long (iL 0)), (0, .ref (d 0))]) Ex Eb dX8_averageRate_8 rfl hl (by decide) rfl (fun ls hl => ?_)
  have lp9 : ∀ (n : Nat) (sm ix : Int), (w 0 - ix).toNat < n → (0 ≤ ix ∧ ix ≤ w 0) → (sm = wWgt w ix.toNat) → ∀ (H : Heap) (locs : List Loc) (ls : Array Slot), lo_Wd X ([oX8 (d 0) 0 (d 1) (d 2) (M 3) (d 3) (M 5) (d 4) (d 5) (d 6) (M 9) (d 7) (M 11) (M 12) (M 13) (M 14) (M 15) (M 16) (M 17) (M 18) (M 19) (M 20) (M 21) (M 22) (M 23) (M 24) (M 25) (M 26) (M 27) (M 28), arI X (d 1) 122 w]) A9 s9.heap H locs → lv_has ls 4 [(0, .ref (d 0)), (1, .long (iL sm)), (3, .int (iI ix))] → W p9 l e9 ({ frames := 2, cells := 0, slots := 0, locals := 44 } : Room) s9 m9 ([.ref (d 0)] : List Value).toArray bl9 me9 c9 H locs 0 0 (MQ bl9 (lo_Qc X ([oX8 (d 0) (M 0) (d 1) (d 2) (M 3) (d 3) (M 5) (d 4) (d 5) (d 6) (M 9) (d 7) (M 11) (M 12) (M 13) (M 14) (M 15) (M 16) (M 17) (M 18) (M 19) (M 20) (M 21) (M 22) (M 23) (M 24) (M 25) (M 26) (M 27) (M 28), arI X (d 1) 122 w]) s9.heap.size (fun v9 w9 => ∃ z : UInt64, ((wFld w 1 (w 0).toNat = 0 ∧ z = FP.dconst0) ∨ (wFld w 1 (w 0).toNat ≠ 0 ∧ z = FP.ddiv (FP.l2d (iL (wWgt w (w 0).toNat))) (FP.i2d (iI (wFld w 1 (w 0).toNat))))) ∧ v9 = some (.double z) ∧ w9 = [oX8 (d 0) 0 (d 1) (d 2) (M 3) (d 3) (M 5) (d 4) (d 5) (d 6) (M 9) (d 7) (M 11) (M 12) (M 13) (M 14) (M 15) (M 16) (M 17) (M 18) (M 19) (M 20) (M 21) (M 22) (M 23) (M 24) (M 25) (M 26) (M 27) (M 28), arI X (d 1) 122 w])) ([.ref (d 0)] : List Value).toArray s9 0 0 A9) (F0 m9 9 ls []) := by
    intro n
    induction n with
    | zero => intro sm ix hn; exact absurd hn (Nat.not_lt_zero _)
    | succ n ih9 =>
      intro sm ix hn9 iv9_0 iv9_1 H locs ls hw hl
      refine lv_iload_n Ex Eb dX8_averageRate_9 rfl (lv_at hl 2 rfl) ?_
      refine lv_aload_n Ex Eb dX8_averageRate_10 rfl (lv_at hl 0 rfl) ?_
      refine lo_get E hK hw huRX8 1 hf9 rfl 0 rfl rfl (by decide) (v := .ref (d 1)) rfl dX8_averageRate_11 ?_
      refine lv_iconst (v := iI 0) Ex Eb dX8_averageRate_14 rfl ?_
      refine lo_iald E hK hw 1 rfl (by omega) dX8_averageRate_15 ?_
      refine W.eq (g2 := F0 m9 16 ls [.int (iI (w 0)), .int (iI ix)]) rfl ?_
      refine lo_icmp_ge (tgt := 43) E dX8_averageRate_16 (by decide) (by omega) (by omega) (fun c1 => ?_) (fun c1 => ?_)
      · skip
        refine lv_aload_n Ex Eb dX8_averageRate_43 rfl (lv_at hl 0 rfl) ?_
        refine lo_callV (q0 := 0) (rest := []) E hK hw (kX8_allBalances l X d (uI M 0 0) w (hWI)) (cwV 0 E.2.2.2.2 gX8_averageRate_X8_allBalances rfl rfl rfl (by decide +kernel) ⟨Nat.le_of_ble_eq_true rfl, Nat.le_of_ble_eq_true rfl⟩) rfl rfl [0, 1] rfl (by decide) hl.1 rfl rfl (Nat.le_of_ble_eq_true rfl) dX8_averageRate_44 ⟨Nat.le_of_ble_eq_true rfl, Nat.le_of_ble_eq_true rfl⟩ (fun v w1 H locs hq hw => ?_)
        obtain ⟨rfl, rfl⟩ := hq
        have hw : lo_Wd X ([oX8 (d 0) 0 (d 1) (d 2) (M 3) (d 3) (M 5) (d 4) (d 5) (d 6) (M 9) (d 7) (M 11) (M 12) (M 13) (M 14) (M 15) (M 16) (M 17) (M 18) (M 19) (M 20) (M 21) (M 22) (M 23) (M 24) (M 25) (M 26) (M 27) (M 28), arI X (d 1) 122 w]) A9 s9.heap H locs := hw
        refine W.eq (g2 := F0 m9 47 ls [.int (iI (wFld w 1 (w 0).toNat))]) rfl ?_
        refine lo_if_ne (tgt := 54) E dX8_averageRate_47 (by decide) (by omega) (fun c2 => ?_) (fun c2 => ?_)
        · skip
          refine lv_lload_n Ex Eb dX8_averageRate_54 rfl (lv_at hl 1 rfl) ?_
          refine lv_l2d Ex Eb dX8_averageRate_55 ?_
          refine lv_aload_n Ex Eb dX8_averageRate_56 rfl (lv_at hl 0 rfl) ?_
          refine lo_callV (q0 := 0) (rest := [.double (FP.l2d (iL sm))]) E hK hw (kX8_allBalances l X d (uI M 0 0) w (hWI)) (cwV 0 E.2.2.2.2 gX8_averageRate_X8_allBalances rfl rfl rfl (by decide +kernel) ⟨Nat.le_of_ble_eq_true rfl, Nat.le_of_ble_eq_true rfl⟩) rfl rfl [0, 1] rfl (by decide) hl.1 rfl rfl (Nat.le_of_ble_eq_true rfl) dX8_averageRate_57 ⟨Nat.le_of_ble_eq_true rfl, Nat.le_of_ble_eq_true rfl⟩ (fun v w1 H locs hq hw => ?_)
          obtain ⟨rfl, rfl⟩ := hq
          have hw : lo_Wd X ([oX8 (d 0) 0 (d 1) (d 2) (M 3) (d 3) (M 5) (d 4) (d 5) (d 6) (M 9) (d 7) (M 11) (M 12) (M 13) (M 14) (M 15) (M 16) (M 17) (M 18) (M 19) (M 20) (M 21) (M 22) (M 23) (M 24) (M 25) (M 26) (M 27) (M 28), arI X (d 1) 122 w]) A9 s9.heap H locs := hw
          refine W.eq (g2 := F0 m9 60 ls [.int (iI (wFld w 1 (w 0).toNat)), .double (FP.l2d (iL sm))]) rfl ?_
          refine lv_i2d Ex Eb dX8_averageRate_60 ?_
          refine lv_ddiv Ex Eb dX8_averageRate_61 (lo_nan64 (lo_ddiv_num _ (by omega) (by omega))) ?_
          exact lo_dret E hRt hLk hK hAe hw dX8_averageRate_62 rfl ⟨FP.ddiv (FP.l2d (iL sm)) (FP.i2d (iI (wFld w 1 (w 0).toNat))), (by have hie : ix = w 0 := (by omega); first | exact Or.inl ⟨by omega, rfl⟩ | exact Or.inr ⟨by omega, by rw [iv9_1, hie]⟩), rfl, rfl⟩
        · skip
          refine lv_dconst0 Ex Eb dX8_averageRate_50 ?_
          refine lv_goto (tgt := 62) Ex Eb dX8_averageRate_51 (by decide) ?_
          exact lo_dret E hRt hLk hK hAe hw dX8_averageRate_62 rfl ⟨FP.dconst0, (by have hie : ix = w 0 := (by omega); first | exact Or.inl ⟨by omega, rfl⟩ | exact Or.inr ⟨by omega, by rw [iv9_1, hie]⟩), rfl, rfl⟩
      · skip
        have hW1 := WI_1 hWI (i := ix) (by omega) (by omega)
        refine lv_lload_n Ex Eb dX8_averageRate_19 rfl (lv_at hl 1 rfl) ?_
        refine lv_aload_n Ex Eb dX8_averageRate_20 rfl (lv_at hl 0 rfl) ?_
        refine lv_iload_n Ex Eb dX8_averageRate_21 rfl (lv_at hl 2 rfl) ?_
        refine lv_iconst (v := iI 1) Ex Eb dX8_averageRate_22 rfl ?_
        refine lo_callV (q0 := 0) (rest := [.long (iL sm)]) E hK hw (kX8_of l X d (uI M 0 0) w ix 1 (by omega) (by omega)) (cwV 2 E.2.2.2.2 gX8_averageRate_X8_of rfl rfl rfl (by decide +kernel) ⟨Nat.le_of_ble_eq_true rfl, Nat.le_of_ble_eq_true rfl⟩) rfl rfl [0, 1] rfl (by decide) hl.1 rfl rfl (Nat.le_of_ble_eq_true rfl) dX8_averageRate_23 ⟨Nat.le_of_ble_eq_true rfl, Nat.le_of_ble_eq_true rfl⟩ (fun v w1 H locs hq hw => ?_)
        obtain ⟨rfl, rfl⟩ := hq
        have hw : lo_Wd X ([oX8 (d 0) 0 (d 1) (d 2) (M 3) (d 3) (M 5) (d 4) (d 5) (d 6) (M 9) (d 7) (M 11) (M 12) (M 13) (M 14) (M 15) (M 16) (M 17) (M 18) (M 19) (M 20) (M 21) (M 22) (M 23) (M 24) (M 25) (M 26) (M 27) (M 28), arI X (d 1) 122 w]) A9 s9.heap H locs := hw
        refine W.eq (g2 := F0 m9 26 ls [.int (iI (wOf w ix 1)), .long (iL sm)]) rfl ?_
        refine lo_i2l E dX8_averageRate_26 (by omega) ?_
        refine lv_aload_n Ex Eb dX8_averageRate_27 rfl (lv_at hl 0 rfl) ?_
        refine lv_iload_n Ex Eb dX8_averageRate_28 rfl (lv_at hl 2 rfl) ?_
        refine lv_iconst (v := iI 2) Ex Eb dX8_averageRate_29 rfl ?_
        refine lo_callV (q0 := 0) (rest := [.long (iL (wOf w ix 1)), .long (iL sm)]) E hK hw (kX8_of l X d (uI M 0 0) w ix 2 (by omega) (by omega)) (cwV 2 E.2.2.2.2 gX8_averageRate_X8_of rfl rfl rfl (by decide +kernel) ⟨Nat.le_of_ble_eq_true rfl, Nat.le_of_ble_eq_true rfl⟩) rfl rfl [0, 1] rfl (by decide) hl.1 rfl rfl (Nat.le_of_ble_eq_true rfl) dX8_averageRate_30 ⟨Nat.le_of_ble_eq_true rfl, Nat.le_of_ble_eq_true rfl⟩ (fun v w1 H locs hq hw => ?_)
        obtain ⟨rfl, rfl⟩ := hq
        have hw : lo_Wd X ([oX8 (d 0) 0 (d 1) (d 2) (M 3) (d 3) (M 5) (d 4) (d 5) (d 6) (M 9) (d 7) (M 11) (M 12) (M 13) (M 14) (M 15) (M 16) (M 17) (M 18) (M 19) (M 20) (M 21) (M 22) (M 23) (M 24) (M 25) (M 26) (M 27) (M 28), arI X (d 1) 122 w]) A9 s9.heap H locs := hw
        refine W.eq (g2 := F0 m9 33 ls [.int (iI (wOf w ix 2)), .long (iL (wOf w ix 1)), .long (iL sm)]) rfl ?_
        refine lo_i2l E dX8_averageRate_33 (by omega) ?_
        refine lo_lmul E dX8_averageRate_34 ?_
        refine lo_ladd E dX8_averageRate_35 ?_
        refine lv_lstore_n (lv' := [(1, .long (iL (sm + (wOf w ix 1 * wOf w ix 2)))), (0, .ref (d 0)), (3, .int (iI ix))]) Ex Eb dX8_averageRate_36 rfl hl (by decide) rfl (fun ls hl => ?_)
        refine lo_iinc (lv' := [(3, .int (iI (ix + 1))), (1, .long (iL (sm + (wOf w ix 1 * wOf w ix 2)))), (0, .ref (d 0))]) E dX8_averageRate_37 hl (k := 2) rfl (by decide) rfl (fun ls hl => ?_)
        refine lv_goto (tgt := 9) Ex Eb dX8_averageRate_40 (by decide) ?_
        exact ih9 (sm + (wOf w ix 1 * wOf w ix 2)) (ix + 1) (by omega) (by omega) (by rw [wWgt_s (by omega), ← iv9_1]) _ _ _ hw (lv_sub hl [2, 1, 0] rfl)
  exact lp9 _ 0 0 (Nat.lt_succ_self _) (by omega) (rfl) _ _ _ hw (lv_sub hl [2, 1, 0] rfl)
set_option maxHeartbeats 4000000 in
set_option maxRecDepth 100000 in
theorem kX8_closedShare (l : Launch) (X : KX) (d : Nat → Nat) (M w : Nat → Int) (hWI : WI w) : CM l X yX8_closedShare wsX8_closedShare ({ frames := 3, cells := 0, slots := 0, locals := 65 }) [.ref (d 0)] ([oX8 (d 0) (M 0) (d 1) (d 2) (M 3) (d 3) (M 5) (d 4) (d 5) (d 6) (M 9) (d 7) (M 11) (M 12) (M 13) (M 14) (M 15) (M 16) (M 17) (M 18) (M 19) (M 20) (M 21) (M 22) (M 23) (M 24) (M 25) (M 26) (M 27) (M 28), arI X (d 1) 122 w]) (fun v9 w9 => ∃ z : UInt32, ((w 0 = 0 ∧ z = FP.fconst0) ∨ (w 0 ≠ 0 ∧ z = FP.fdiv (FP.i2f (iI (w 0 - cnt (LWf w) (w 0).toNat))) (FP.i2f (iI (w 0))))) ∧ v9 = some (.float z) ∧ w9 = [oX8 (d 0) 0 (d 1) (d 2) (M 3) (d 3) (M 5) (d 4) (d 5) (d 6) (M 9) (d 7) (M 11) (M 12) (M 13) (M 14) (M 15) (M 16) (M 17) (M 18) (M 19) (M 20) (M 21) (M 22) (M 23) (M 24) (M 25) (M 26) (M 27) (M 28), arI X (d 1) 122 w]) 0 0 := by
  refine lo_enter (cc := cX8_closedShare) (maxL := 1) (ret := (some .float)) (lv := [(0, .ref (d 0))]) (by decide) rfl rfl (Nat.le_of_ble_eq_true rfl) ?_
  intro p9 e9 s9 m9 bl9 me9 c9 A9 ls hAe E hRt hLk hK hl hw
  have Ex := E.1
  have Eb := E.2.1
  have huRX8 : ∀ w ∈ u_ws RX8 TX8 29, w ∈ wsX8_closedShare := by decide +kernel
  have hf56 : (Cond.fieldLink RX8 56 "LoanScheduleModel" "thrown" "I").before _ s9 = true := E.2.2.2.2 _ (List.mem_of_getElem? (i := 1) rfl)
  have hf9 : (Cond.fieldLink RX8 9 "LoanScheduleModel" "w" "[I").before _ s9 = true := E.2.2.2.2 _ (List.mem_of_getElem? (i := 2) rfl)
  obtain ⟨⟨hn0, hn1⟩, ⟨hb0, hb1⟩, hL⟩ := id hWI
  have hc0 := cnt_0 (LWf w) (w 0).toNat
  have hcm := cnt_m (LWf w) (w 0).toNat
  refine lv_aload_n Ex Eb dX8_closedShare_0 rfl (lv_at hl 0 rfl) ?_
  refine lv_iconst (v := iI 0) Ex Eb dX8_closedShare_1 rfl ?_
  refine lo_put E hK hw huRX8 tyX8 tyX8_ok nmX8 0 hf56 rfl 0 rfl rfl (by decide) rfl rfl rfl rfl (Nat.le_of_ble_eq_true rfl) (ws' := [oX8 (d 0) 0 (d 1) (d 2) (M 3) (d 3) (M 5) (d 4) (d 5) (d 6) (M 9) (d 7) (M 11) (M 12) (M 13) (M 14) (M 15) (M 16) (M 17) (M 18) (M 19) (M 20) (M 21) (M 22) (M 23) (M 24) (M 25) (M 26) (M 27) (M 28), arI X (d 1) 122 w]) rfl dX8_closedShare_2 (fun H locs hw => ?_)
  refine lv_aload_n Ex Eb dX8_closedShare_5 rfl (lv_at hl 0 rfl) ?_
  refine lo_get E hK hw huRX8 1 hf9 rfl 0 rfl rfl (by decide) (v := .ref (d 1)) rfl dX8_closedShare_6 ?_
  refine lv_iconst (v := iI 0) Ex Eb dX8_closedShare_9 rfl ?_
  refine lo_iald E hK hw 1 rfl (by omega) dX8_closedShare_10 ?_
  refine W.eq (g2 := F0 m9 11 ls [.int (iI (w 0))]) rfl ?_
  refine lo_if_ne (tgt := 18) E dX8_closedShare_11 (by decide) (by omega) (fun c1 => ?_) (fun c1 => ?_)
  · skip
    refine lv_aload_n Ex Eb dX8_closedShare_18 rfl (lv_at hl 0 rfl) ?_
    refine lo_get E hK hw huRX8 1 hf9 rfl 0 rfl rfl (by decide) (v := .ref (d 1)) rfl dX8_closedShare_19 ?_
    refine lv_iconst (v := iI 0) Ex Eb dX8_closedShare_22 rfl ?_
    refine lo_iald E hK hw 1 rfl (by omega) dX8_closedShare_23 ?_
    refine W.eq (g2 := F0 m9 24 ls [.int (iI (w 0))]) rfl ?_
    refine lv_aload_n Ex Eb dX8_closedShare_24 rfl (lv_at hl 0 rfl) ?_
    refine lo_callV (q0 := 0) (rest := [.int (iI (w 0))]) E hK hw (kX8_openLoans l X d (uI M 0 0) w (hWI)) (cwV 0 E.2.2.2.2 gX8_closedShare_X8_openLoans rfl rfl rfl (by decide +kernel) ⟨Nat.le_of_ble_eq_true rfl, Nat.le_of_ble_eq_true rfl⟩) rfl rfl [0, 1] rfl (by decide) hl.1 rfl rfl (Nat.le_of_ble_eq_true rfl) dX8_closedShare_25 ⟨Nat.le_of_ble_eq_true rfl, Nat.le_of_ble_eq_true rfl⟩ (fun v w1 H locs hq hw => ?_)
    obtain ⟨rfl, rfl⟩ := hq
    have hw : lo_Wd X ([oX8 (d 0) 0 (d 1) (d 2) (M 3) (d 3) (M 5) (d 4) (d 5) (d 6) (M 9) (d 7) (M 11) (M 12) (M 13) (M 14) (M 15) (M 16) (M 17) (M 18) (M 19) (M 20) (M 21) (M 22) (M 23) (M 24) (M 25) (M 26) (M 27) (M 28), arI X (d 1) 122 w]) A9 s9.heap H locs := hw
    refine W.eq (g2 := F0 m9 28 ls [.int (iI (cnt (LWf w) (w 0).toNat)), .int (iI (w 0))]) rfl ?_
    refine lo_isub E dX8_closedShare_28 ?_
    refine lv_i2f Ex Eb dX8_closedShare_29 ?_
    refine lv_aload_n Ex Eb dX8_closedShare_30 rfl (lv_at hl 0 rfl) ?_
    refine lo_get E hK hw huRX8 1 hf9 rfl 0 rfl rfl (by decide) (v := .ref (d 1)) rfl dX8_closedShare_31 ?_
    refine lv_iconst (v := iI 0) Ex Eb dX8_closedShare_34 rfl ?_
    refine lo_iald E hK hw 1 rfl (by omega) dX8_closedShare_35 ?_
    refine W.eq (g2 := F0 m9 36 ls [.int (iI (w 0)), .float (FP.i2f (iI ((w 0) - cnt (LWf w) (w 0).toNat)))]) rfl ?_
    refine lv_i2f Ex Eb dX8_closedShare_36 ?_
    refine lv_fdiv Ex Eb dX8_closedShare_37 (lo_fdiv_n (by omega) (by omega) (by omega) (by omega)) ?_
    exact lo_fret E hRt hLk hK hAe hw dX8_closedShare_38 rfl ⟨FP.fdiv (FP.i2f (iI ((w 0) - cnt (LWf w) (w 0).toNat))) (FP.i2f (iI (w 0))), (by first | exact Or.inl ⟨by omega, rfl⟩ | exact Or.inr ⟨by omega, rfl⟩), rfl, rfl⟩
  · skip
    refine lv_fconst0 Ex Eb dX8_closedShare_14 ?_
    refine lv_goto (tgt := 38) Ex Eb dX8_closedShare_15 (by decide) ?_
    exact lo_fret E hRt hLk hK hAe hw dX8_closedShare_38 rfl ⟨FP.fconst0, (by first | exact Or.inl ⟨by omega, rfl⟩ | exact Or.inr ⟨by omega, rfl⟩), rfl, rfl⟩
