set_option maxHeartbeats 4000000 in
set_option maxRecDepth 100000 in
theorem kX7_skipsWithin (l : Launch) (X : KX) (kS : Nat → Nat) (hst : l.stackTraces = false) (xo xi xh xs xr xt xl xa xc : Nat) (isz sv : Int) (B0 : Nat → Int) (a b : Nat → Nat) (P : PT) (i k : Int) (hPI : PI P) (hi9 : i32 i) (hk9 : i32 k) : CT l X kS yX7_skipsWithin wsX7_skipsWithin ({ frames := 7, cells := 2, slots := 12, locals := 122 }) [.ref xo, .int (iI i), .int (iI k)] ([oX7 xo xi isz (a 0) xh xs sv xr xt xl xa xc, oX2 xl (B0 0) (B0 1) (B0 2) (B0 3) (B0 4) (B0 5) (B0 6) (B0 7) (B0 8) (B0 9), oX3 (a 0) (a 1) (a 2) (Pn P), arN X (a 1) 6 b, oX0 (a 2) (a 3) (a 4) (a 5) (Px P) (Pk P), arI X (a 3) 20 (Pa P), arI X (a 4) 20 (Pb P), arI X (a 5) 20 (Pd P)] ++ ((lsW b (PL P)))) (fun v9 w9 => ∃ B9 : Nat → Int, (0 ≤ i ∧ i < Pn P) ∧ (1 ≤ k ∧ k ≤ 9999999) ∧ v9 = some (.int (iI (skpL 6 (PL P i.toNat) k))) ∧ w9 = [oX7 xo xi isz (a 0) xh xs sv xr xt xl xa xc, oX2 xl (B9 0) (B9 1) (B9 2) (B9 3) (B9 4) (B9 5) (B9 6) (B9 7) (B9 8) (B9 9), oX3 (a 0) (a 1) (a 2) (Pn P), arN X (a 1) 6 b, oX0 (a 2) (a 3) (a 4) (a 5) (Px P) (Pk P), arI X (a 3) 20 (Pa P), arI X (a 4) 20 (Pb P), arI X (a 5) 20 (Pd P)] ++ ((lsW b (PL P)))) (fun E9 w9 => ∃ B9 : Nat → Int, ((E9 = "java/lang/IndexOutOfBoundsException" ∧ ¬ (0 ≤ i ∧ i < Pn P)) ∨ (E9 = "java/lang/IllegalArgumentException" ∧ (0 ≤ i ∧ i < Pn P) ∧ ¬ (1 ≤ k ∧ k ≤ 9999999))) ∧ w9 = [oX7 xo xi isz (a 0) xh xs sv xr xt xl xa xc, oX2 xl (B9 0) (B9 1) (B9 2) (B9 3) (B9 4) (B9 5) (B9 6) (B9 7) (B9 8) (B9 9), oX3 (a 0) (a 1) (a 2) (Pn P), arN X (a 1) 6 b, oX0 (a 2) (a 3) (a 4) (a 5) (Px P) (Pk P), arI X (a 3) 20 (Pa P), arI X (a 4) 20 (Pb P), arI X (a 5) 20 (Pd P)] ++ ((lsW b (PL P)))) 2 12 := by
  refine lo_enterT (cc := cX7_skipsWithin) (maxL := 5) (ret := (some .int)) (lv := [(0, .ref xo), (1, .int (iI i)), (2, .int (iI k))]) (by decide) rfl rfl (Nat.le_of_ble_eq_true rfl) ?_
  intro p9 e9 s9 m9 bl9 me9 c9 A9 ls hAe E hRt hLk hK hl hw hV hT9
  have Ex := E.1
  have Eb := E.2.1
  have huRX7 : ∀ w ∈ u_ws RX7 TX7 11, w ∈ wsX7_skipsWithin := by decide +kernel
  have hf51 : (Cond.fieldLink RX7 51 "LoanSchedule" "trialLoan" "LLoanSchedule$Loan;").before _ s9 = true := E.2.2.2.2 _ (List.mem_of_getElem? (i := 1) rfl)
  have hc103 : (Cond.constant RX7 103 (9999999)).before _ s9 = true := E.2.2.2.2 _ (List.mem_of_getElem? (i := 2) rfl)
  have huRX2 : ∀ w ∈ u_ws RX2 TX2 10, w ∈ wsX7_skipsWithin := by decide +kernel
  have hf185 : (Cond.fieldLink RX7 185 "LoanSchedule$Loan" "installment" "I").before _ s9 = true := E.2.2.2.2 _ (List.mem_of_getElem? (i := 3) rfl)
  obtain ⟨⟨hn0, hn1⟩, ⟨hx0, hx1⟩, ⟨hk0, hk1⟩, hL⟩ := id hPI
  refine lv_aload_n Ex Eb dX7_skipsWithin_0 rfl (lv_at hl 0 rfl) ?_
  refine lo_get E hK hw huRX7 8 hf51 rfl 0 rfl rfl (by decide) (v := .ref xl) rfl dX7_skipsWithin_1 ?_
  refine lv_aload_n Ex Eb dX7_skipsWithin_4 rfl (lv_at hl 0 rfl) ?_
  refine lv_iload_n Ex Eb dX7_skipsWithin_5 rfl (lv_at hl 1 rfl) ?_
  refine lo_callVT (q0 := 0) (rest := [.ref xl]) E hK hw hV (kX7_loanAt l X kS hst xo xi xh xs xr xt xl xa xc isz sv a b P i (by omega) (by omega)) (cwV 1 E.2.2.2.2 gX7_skipsWithin_X7_loanAt rfl rfl rfl (by decide +kernel) ⟨Nat.le_of_ble_eq_true rfl, Nat.le_of_ble_eq_true rfl⟩) rfl rfl [0, 2, 3, 4, 5, 6, 7, 8, 9, 10, 11, 12, 13] rfl (by decide) hl.1 rfl rfl (Nat.le_of_ble_eq_true rfl) dX7_skipsWithin_6 ⟨Nat.le_of_ble_eq_true rfl, Nat.le_of_ble_eq_true rfl⟩ (fun E9 ce9 q9 w1 H locs hq hw hx1 hx2 hx3 => ?_) (fun v w1 H locs hq hw => ?_)
  · obtain ⟨x6_0, x6_1, rfl⟩ := hq
    have hw : lo_Wd X ([oX7 xo xi isz (a 0) xh xs sv xr xt xl xa xc, oX2 xl (B0 0) (B0 1) (B0 2) (B0 3) (B0 4) (B0 5) (B0 6) (B0 7) (B0 8) (B0 9), oX3 (a 0) (a 1) (a 2) (Pn P), arN X (a 1) 6 b, oX0 (a 2) (a 3) (a 4) (a 5) (Px P) (Pk P), arI X (a 3) 20 (Pa P), arI X (a 4) 20 (Pb P), arI X (a 5) 20 (Pd P)] ++ ((lsW b (PL P)))) A9 s9.heap H locs := hw
    exact lo_out hT9 hLk hK hAe hw hx1 hx2 hx3 rfl (Nat.le_of_ble_eq_true rfl) (Nat.le_of_ble_eq_true rfl) ⟨B0, (Or.inl ⟨x6_0, x6_1⟩), rfl⟩
  obtain ⟨q6_0, rfl, rfl⟩ := hq
  have hw : lo_Wd X ([oX7 xo xi isz (a 0) xh xs sv xr xt xl xa xc, oX2 xl (B0 0) (B0 1) (B0 2) (B0 3) (B0 4) (B0 5) (B0 6) (B0 7) (B0 8) (B0 9), oX3 (a 0) (a 1) (a 2) (Pn P), arN X (a 1) 6 b, oX0 (a 2) (a 3) (a 4) (a 5) (Px P) (Pk P), arI X (a 3) 20 (Pa P), arI X (a 4) 20 (Pb P), arI X (a 5) 20 (Pd P)] ++ ((lsW b (PL P)))) A9 s9.heap H locs := hw
  refine W.eq (g2 := F0 m9 9 ls [.ref (b i.toNat), .ref xl]) rfl ?_
  have hLi := hL i.toNat (by omega)
  obtain ⟨⟨hb0, hb1⟩, ⟨hr0, hr1⟩, ⟨hc0, hc1⟩, ⟨hm0, hm1⟩, ⟨hi0, hi1⟩, ⟨hs0, hs1⟩, hop, hcl⟩ := id hLi
  refine lo_callV (q0 := 1) (rest := []) E hK hw (kX2_copyFrom l X xl (b i.toNat) B0 (PL P i.toNat) ) (cwV 1 E.2.2.2.2 gX7_skipsWithin_X2_copyFrom rfl rfl rfl (by decide +kernel) ⟨Nat.le_of_ble_eq_true rfl, Nat.le_of_ble_eq_true rfl⟩) rfl rfl [1, 8 + i.toNat] (lo_ps_cons rfl (lo_ps_cons (lsW_atE (k := 8) rfl (by omega)) lo_ps_nil)) (by simp [va_nd]; try omega) hl.1 rfl rfl (Nat.le_of_ble_eq_true rfl) dX7_skipsWithin_9 ⟨Nat.le_of_ble_eq_true rfl, Nat.le_of_ble_eq_true rfl⟩ (fun v w1 H locs hq hw => ?_)
  obtain ⟨rfl, rfl⟩ := hq
  have hw := lo_cast (lsW_k (k := 8) (ps := [1]) (w1 := [oX2 xl (PL P i.toNat 0) (PL P i.toNat 1) (PL P i.toNat 2) (PL P i.toNat 3) (PL P i.toNat 4) (PL P i.toNat 5) (PL P i.toNat 6) (PL P i.toNat 7) (PL P i.toNat 8) (PL P i.toNat 9)]) rfl (by omega) (by decide) rfl rfl) hw
  have hw : lo_Wd X ([oX7 xo xi isz (a 0) xh xs sv xr xt xl xa xc, oX2 xl (PL P i.toNat 0) (PL P i.toNat 1) (PL P i.toNat 2) (PL P i.toNat 3) (PL P i.toNat 4) (PL P i.toNat 5) (PL P i.toNat 6) (PL P i.toNat 7) (PL P i.toNat 8) (PL P i.toNat 9), oX3 (a 0) (a 1) (a 2) (Pn P), arN X (a 1) 6 b, oX0 (a 2) (a 3) (a 4) (a 5) (Px P) (Pk P), arI X (a 3) 20 (Pa P), arI X (a 4) 20 (Pb P), arI X (a 5) 20 (Pd P)] ++ ((lsW b (PL P)))) A9 s9.heap H locs := hw
  refine W.eq (g2 := F0 m9 12 ls []) rfl ?_
  refine lv_iload_n Ex Eb dX7_skipsWithin_12 rfl (lv_at hl 2 rfl) ?_
  refine lv_iconst (v := iI 1) Ex Eb dX7_skipsWithin_13 rfl ?_
  refine lo_ldc (z := 9999999) E hc103 dX7_skipsWithin_14 rfl ?_
  refine lo_callST (rest := []) E hK hw hV (kX7_requireRange l X kS hst k 1 9999999 (by omega) (by omega) (by omega)) (cwS 3 E.2.2.2.2 gX7_skipsWithin_X7_requireRange rfl rfl rfl (by decide +kernel) ⟨Nat.le_of_ble_eq_true rfl, Nat.le_of_ble_eq_true rfl⟩) [] rfl (by decide) hl.1 rfl rfl (Nat.le_of_ble_eq_true rfl) dX7_skipsWithin_16 ⟨Nat.le_of_ble_eq_true rfl, Nat.le_of_ble_eq_true rfl⟩ (fun E9 ce9 q9 w1 H locs hq hw hx1 hx2 hx3 => ?_) (fun v w1 H locs hq hw => ?_)
  · obtain ⟨x16_0, x16_1, rfl⟩ := hq
    have hw : lo_Wd X ([oX7 xo xi isz (a 0) xh xs sv xr xt xl xa xc, oX2 xl (PL P i.toNat 0) (PL P i.toNat 1) (PL P i.toNat 2) (PL P i.toNat 3) (PL P i.toNat 4) (PL P i.toNat 5) (PL P i.toNat 6) (PL P i.toNat 7) (PL P i.toNat 8) (PL P i.toNat 9), oX3 (a 0) (a 1) (a 2) (Pn P), arN X (a 1) 6 b, oX0 (a 2) (a 3) (a 4) (a 5) (Px P) (Pk P), arI X (a 3) 20 (Pa P), arI X (a 4) 20 (Pb P), arI X (a 5) 20 (Pd P)] ++ ((lsW b (PL P)))) A9 s9.heap H locs := hw
    exact lo_out hT9 hLk hK hAe hw hx1 hx2 hx3 rfl (Nat.le_of_ble_eq_true rfl) (Nat.le_of_ble_eq_true rfl) ⟨PL P i.toNat, (Or.inr ⟨x16_0, by omega, x16_1⟩), rfl⟩
  obtain ⟨q16_0, rfl, rfl⟩ := hq
  have hw : lo_Wd X ([oX7 xo xi isz (a 0) xh xs sv xr xt xl xa xc, oX2 xl (PL P i.toNat 0) (PL P i.toNat 1) (PL P i.toNat 2) (PL P i.toNat 3) (PL P i.toNat 4) (PL P i.toNat 5) (PL P i.toNat 6) (PL P i.toNat 7) (PL P i.toNat 8) (PL P i.toNat 9), oX3 (a 0) (a 1) (a 2) (Pn P), arN X (a 1) 6 b, oX0 (a 2) (a 3) (a 4) (a 5) (Px P) (Pk P), arI X (a 3) 20 (Pa P), arI X (a 4) 20 (Pb P), arI X (a 5) 20 (Pd P)] ++ ((lsW b (PL P)))) A9 s9.heap H locs := hw
  refine W.eq (g2 := F0 m9 19 ls []) rfl ?_
  refine lv_iconst (v := iI 0) Ex Eb dX7_skipsWithin_19 rfl ?_
  refine lv_istore_n (lv' := [(3, .int (iI 0)), (0, .ref xo), (1, .int (iI i)), (2, .int (iI k))]) Ex Eb dX7_skipsWithin_20 rfl hl (by decide) rfl (fun ls hl => ?_)
  refine lv_iconst (v := iI 0) Ex Eb dX7_skipsWithin_21 rfl ?_
  refine lv_istore (lv' := [(4, .int (iI 0)), (3, .int (iI 0)), (0, .ref xo), (1, .int (iI i)), (2, .int (iI k))]) Ex Eb dX7_skipsWithin_22 hl (by decide) rfl (fun ls hl => ?_)
  have lp24 : ∀ (n : Nat) (U : Nat → Int) (ct ix : Int), (6 - ix).toNat < n → (LI U) → (0 ≤ ix ∧ ix ≤ 6 ∧ ct = ix) → (skpL (6 - ix).toNat U k + ct = skpL 6 (PL P i.toNat) k) → ∀ (H : Heap) (locs : List Loc) (ls : Array Slot), lo_Wd X ([oX7 xo xi isz (a 0) xh xs sv xr xt xl xa xc, oX2 xl (U 0) (U 1) (U 2) (U 3) (U 4) (U 5) (U 6) (U 7) (U 8) (U 9), oX3 (a 0) (a 1) (a 2) (Pn P), arN X (a 1) 6 b, oX0 (a 2) (a 3) (a 4) (a 5) (Px P) (Pk P), arI X (a 3) 20 (Pa P), arI X (a 4) 20 (Pb P), arI X (a 5) 20 (Pd P)] ++ ((lsW b (PL P)))) A9 s9.heap H locs → lv_has ls 5 [(0, .ref xo), (1, .int (iI i)), (2, .int (iI k)), (3, .int (iI ct)), (4, .int (iI ix))] → W p9 l e9 ({ frames := 7, cells := 2, slots := 12, locals := 122 } : Room) s9 m9 ([.ref xo, .int (iI i), .int (iI k)] : List Value).toArray bl9 me9 c9 H locs 2 12 (vx_MQ bl9 (lo_Qc X ([oX7 xo xi isz (a 0) xh xs sv xr xt xl xa xc, oX2 xl (B0 0) (B0 1) (B0 2) (B0 3) (B0 4) (B0 5) (B0 6) (B0 7) (B0 8) (B0 9), oX3 (a 0) (a 1) (a 2) (Pn P), arN X (a 1) 6 b, oX0 (a 2) (a 3) (a 4) (a 5) (Px P) (Pk P), arI X (a 3) 20 (Pa P), arI X (a 4) 20 (Pb P), arI X (a 5) 20 (Pd P)] ++ ((lsW b (PL P)))) s9.heap.size (fun v9 w9 => ∃ B9 : Nat → Int, (0 ≤ i ∧ i < Pn P) ∧ (1 ≤ k ∧ k ≤ 9999999) ∧ v9 = some (.int (iI (skpL 6 (PL P i.toNat) k))) ∧ w9 = [oX7 xo xi isz (a 0) xh xs sv xr xt xl xa xc, oX2 xl (B9 0) (B9 1) (B9 2) (B9 3) (B9 4) (B9 5) (B9 6) (B9 7) (B9 8) (B9 9), oX3 (a 0) (a 1) (a 2) (Pn P), arN X (a 1) 6 b, oX0 (a 2) (a 3) (a 4) (a 5) (Px P) (Pk P), arI X (a 3) 20 (Pa P), arI X (a 4) 20 (Pb P), arI X (a 5) 20 (Pd P)] ++ ((lsW b (PL P))))) (lo_XC X ([oX7 xo xi isz (a 0) xh xs sv xr xt xl xa xc, oX2 xl (B0 0) (B0 1) (B0 2) (B0 3) (B0 4) (B0 5) (B0 6) (B0 7) (B0 8) (B0 9), oX3 (a 0) (a 1) (a 2) (Pn P), arN X (a 1) 6 b, oX0 (a 2) (a 3) (a 4) (a 5) (Px P) (Pk P), arI X (a 3) 20 (Pa P), arI X (a 4) 20 (Pb P), arI X (a 5) 20 (Pd P)] ++ ((lsW b (PL P)))) s9.heap.size (fun E9 w9 => ∃ B9 : Nat → Int, ((E9 = "java/lang/IndexOutOfBoundsException" ∧ ¬ (0 ≤ i ∧ i < Pn P)) ∨ (E9 = "java/lang/IllegalArgumentException" ∧ (0 ≤ i ∧ i < Pn P) ∧ ¬ (1 ≤ k ∧ k ≤ 9999999))) ∧ w9 = [oX7 xo xi isz (a 0) xh xs sv xr xt xl xa xc, oX2 xl (B9 0) (B9 1) (B9 2) (B9 3) (B9 4) (B9 5) (B9 6) (B9 7) (B9 8) (B9 9), oX3 (a 0) (a 1) (a 2) (Pn P), arN X (a 1) 6 b, oX0 (a 2) (a 3) (a 4) (a 5) (Px P) (Pk P), arI X (a 3) 20 (Pa P), arI X (a 4) 20 (Pb P), arI X (a 5) 20 (Pd P)] ++ ((lsW b (PL P))))) ([.ref xo, .int (iI i), .int (iI k)] : List Value).toArray s9 2 12 A9) (F0 m9 24 ls []) := by
    intro n
    induction n with
    | zero => intro U ct ix hn; exact absurd hn (Nat.not_lt_zero _)
    | succ n ih24 =>
      intro U ct ix hn24 iv24_0 iv24_1 iv24_2 H locs ls hw hl
      obtain ⟨⟨jb0, jb1⟩, ⟨jr0, jr1⟩, ⟨jc0, jc1⟩, ⟨jm0, jm1⟩, ⟨ji0, ji1⟩, ⟨js0, js1⟩, jop, jcl⟩ := id iv24_0
      refine lv_iload Ex Eb dX7_skipsWithin_24 (lv_at hl 4 rfl) ?_
      refine lv_bipush (v := iI 6) Ex Eb dX7_skipsWithin_26 rfl ?_
      refine lo_icmp_ge (tgt := 71) E dX7_skipsWithin_28 (by decide) (by omega) (by omega) (fun c1 => ?_) (fun c1 => ?_)
      · skip
        refine lv_iload_n Ex Eb dX7_skipsWithin_71 rfl (lv_at hl 3 rfl) ?_
        refine vx_ret ?_
        exact lo_iret E hRt hLk hK hAe hw dX7_skipsWithin_72 rfl ⟨U, (by omega), (by omega), by rw [← iv24_2]; first | (rw [show (6 - ix).toNat = 0 by omega]; show some (Value.int (iI ct)) = some (Value.int (iI (0 + ct))); rw [Int.zero_add]) | (rw [skpL_n (by omega), Int.zero_add]) | (rw [show (6 - ix).toNat = (6 - (ix + 1)).toNat + 1 by omega, skpL_m (by omega), Int.zero_add]), rfl⟩
      · skip
        refine lv_aload_n Ex Eb dX7_skipsWithin_31 rfl (lv_at hl 0 rfl) ?_
        refine lo_get E hK hw huRX7 8 hf51 rfl 0 rfl rfl (by decide) (v := .ref xl) rfl dX7_skipsWithin_32 ?_
        refine lo_callV (q0 := 1) (rest := []) E hK hw (kX2_canDefer l X xl U (by omega) (by omega) (by omega) (by omega) (by omega) (by omega) (by omega)) (cwV 0 E.2.2.2.2 gX7_skipsWithin_X2_canDefer rfl rfl rfl (by decide +kernel) ⟨Nat.le_of_ble_eq_true rfl, Nat.le_of_ble_eq_true rfl⟩) rfl rfl [1] rfl (by decide) hl.1 rfl rfl (Nat.le_of_ble_eq_true rfl) dX7_skipsWithin_35 ⟨Nat.le_of_ble_eq_true rfl, Nat.le_of_ble_eq_true rfl⟩ (fun v w1 H locs hq hw => ?_)
        obtain ⟨r2, q35_0, rfl, rfl⟩ := hq
        have hw : lo_Wd X ([oX7 xo xi isz (a 0) xh xs sv xr xt xl xa xc, oX2 xl (U 0) (U 1) (U 2) (U 3) (U 4) (U 5) (U 6) (U 7) (U 8) (U 9), oX3 (a 0) (a 1) (a 2) (Pn P), arN X (a 1) 6 b, oX0 (a 2) (a 3) (a 4) (a 5) (Px P) (Pk P), arI X (a 3) 20 (Pa P), arI X (a 4) 20 (Pb P), arI X (a 5) 20 (Pd P)] ++ ((lsW b (PL P)))) A9 s9.heap H locs := hw
        refine W.eq (g2 := F0 m9 38 ls [.int (iI r2)]) rfl ?_
        refine lo_if_eq (tgt := 71) E dX7_skipsWithin_38 (by decide) (by omega) (fun c3 => ?_) (fun c3 => ?_)
        · skip
          refine lv_iload_n Ex Eb dX7_skipsWithin_71 rfl (lv_at hl 3 rfl) ?_
          refine vx_ret ?_
          exact lo_iret E hRt hLk hK hAe hw dX7_skipsWithin_72 rfl ⟨U, (by omega), (by omega), by rw [← iv24_2]; first | (rw [show (6 - ix).toNat = 0 by omega]; show some (Value.int (iI ct)) = some (Value.int (iI (0 + ct))); rw [Int.zero_add]) | (rw [skpL_n (by omega), Int.zero_add]) | (rw [show (6 - ix).toNat = (6 - (ix + 1)).toNat + 1 by omega, skpL_m (by omega), Int.zero_add]), rfl⟩
        · skip
          refine lv_aload_n Ex Eb dX7_skipsWithin_41 rfl (lv_at hl 0 rfl) ?_
          refine lo_get E hK hw huRX7 8 hf51 rfl 0 rfl rfl (by decide) (v := .ref xl) rfl dX7_skipsWithin_42 ?_
          refine lo_callV (q0 := 1) (rest := []) E hK hw (kX2_defer l X xl U (iv24_0) (by omega)) (cwV 0 E.2.2.2.2 gX7_skipsWithin_X2_defer rfl rfl rfl (by decide +kernel) ⟨Nat.le_of_ble_eq_true rfl, Nat.le_of_ble_eq_true rfl⟩) rfl rfl [1] rfl (by decide) hl.1 rfl rfl (Nat.le_of_ble_eq_true rfl) dX7_skipsWithin_45 ⟨Nat.le_of_ble_eq_true rfl, Nat.le_of_ble_eq_true rfl⟩ (fun v w1 H locs hq hw => ?_)
          obtain ⟨rfl, rfl⟩ := hq
          have hw : lo_Wd X ([oX7 xo xi isz (a 0) xh xs sv xr xt xl xa xc, oX2 xl (defL U 0) (defL U 1) (defL U 2) (defL U 3) (defL U 4) (defL U 5) (defL U 6) (defL U 7) (defL U 8) (defL U 9), oX3 (a 0) (a 1) (a 2) (Pn P), arN X (a 1) 6 b, oX0 (a 2) (a 3) (a 4) (a 5) (Px P) (Pk P), arI X (a 3) 20 (Pa P), arI X (a 4) 20 (Pb P), arI X (a 5) 20 (Pd P)] ++ ((lsW b (PL P)))) A9 s9.heap H locs := hw
          refine W.eq (g2 := F0 m9 48 ls [.int (iI (fI (U 1) (U 2) (U 5)))]) rfl ?_
          refine lv_pop Ex Eb dX7_skipsWithin_48 rfl ?_
          refine lv_aload_n Ex Eb dX7_skipsWithin_49 rfl (lv_at hl 0 rfl) ?_
          refine lo_get E hK hw huRX7 8 hf51 rfl 0 rfl rfl (by decide) (v := .ref xl) rfl dX7_skipsWithin_50 ?_
          have hdL := defL_LI iv24_0 (by omega) (by omega) (by omega)
          have hd4 : 0 ≤ defL U 4 ∧ defL U 4 ≤ 10249999 := hdL.2.2.2.2.1
          refine lo_get E hK hw huRX2 4 hf185 rfl 1 rfl rfl (by decide) (v := .int (iI (defL U 4))) rfl dX7_skipsWithin_53 ?_
          refine lv_iload_n Ex Eb dX7_skipsWithin_56 rfl (lv_at hl 2 rfl) ?_
          refine lo_icmp_le (tgt := 62) E dX7_skipsWithin_57 (by decide) (by omega) (by omega) (fun c4 => ?_) (fun c4 => ?_)
          · skip
            refine lo_iinc (lv' := [(3, .int (iI (ct + 1))), (0, .ref xo), (1, .int (iI i)), (2, .int (iI k)), (4, .int (iI ix))]) E dX7_skipsWithin_62 hl (k := 3) rfl (by decide) rfl (fun ls hl => ?_)
            refine lo_iinc (lv' := [(4, .int (iI (ix + 1))), (3, .int (iI (ct + 1))), (0, .ref xo), (1, .int (iI i)), (2, .int (iI k))]) E dX7_skipsWithin_65 hl (k := 4) rfl (by decide) rfl (fun ls hl => ?_)
            refine lv_goto (tgt := 24) Ex Eb dX7_skipsWithin_68 (by decide) ?_
            exact ih24 (defL U) (ct + 1) (ix + 1) (by omega) (defL_LI iv24_0 (by omega) (by omega) (by omega)) (by omega) (by rw [← iv24_2, show (6 - ix).toNat = (6 - (ix + 1)).toNat + 1 by omega, skpL_y ⟨by omega, by omega, by omega⟩ (by omega)]; omega) _ _ _ hw (lv_sub hl [2, 3, 4, 1, 0] rfl)
          · skip
            refine lv_iload_n Ex Eb dX7_skipsWithin_60 rfl (lv_at hl 3 rfl) ?_
            refine vx_ret ?_
            exact lo_iret E hRt hLk hK hAe hw dX7_skipsWithin_61 rfl ⟨defL U, (by omega), (by omega), by rw [← iv24_2]; first | (rw [show (6 - ix).toNat = 0 by omega]; show some (Value.int (iI ct)) = some (Value.int (iI (0 + ct))); rw [Int.zero_add]) | (rw [skpL_n (by omega), Int.zero_add]) | (rw [show (6 - ix).toNat = (6 - (ix + 1)).toNat + 1 by omega, skpL_m (by omega), Int.zero_add]), rfl⟩
  exact lp24 _ (PL P i.toNat) 0 0 (Nat.lt_succ_self _) (hLi) (by omega) (by rw [show ((6 : Int) - 0).toNat = 6 by omega]; omega) _ _ _ hw (lv_sub hl [2, 3, 4, 1, 0] rfl)
set_option maxHeartbeats 4000000 in
set_option maxRecDepth 100000 in
theorem kX7_interestIfRate (l : Launch) (X : KX) (kS : Nat → Nat) (hst : l.stackTraces = false) (xo xi xh xs xr xt xl xa xc : Nat) (isz sv : Int) (A0 B0 : Nat → Int) (a b : Nat → Nat) (P : PT) (i k : Int) (hPI : PI P) (hi9 : i32 i) (hk9 : i32 k) : CT l X kS yX7_interestIfRate wsX7_interestIfRate ({ frames := 7, cells := 2, slots := 12, locals := 122 }) [.ref xo, .int (iI i), .int (iI k)] ([oX7 xo xi isz (a 0) xh xs sv xr xt xl xa xc, oX2 xa (A0 0) (A0 1) (A0 2) (A0 3) (A0 4) (A0 5) (A0 6) (A0 7) (A0 8) (A0 9), oX2 xl (B0 0) (B0 1) (B0 2) (B0 3) (B0 4) (B0 5) (B0 6) (B0 7) (B0 8) (B0 9), oX3 (a 0) (a 1) (a 2) (Pn P), arN X (a 1) 6 b, oX0 (a 2) (a 3) (a 4) (a 5) (Px P) (Pk P), arI X (a 3) 20 (Pa P), arI X (a 4) 20 (Pb P), arI X (a 5) 20 (Pd P)] ++ ((lsW b (PL P)))) (fun v9 w9 => ∃ A9 : Nat → Int, ∃ B9 : Nat → Int, ∃ z : Int, (0 ≤ i ∧ i < Pn P) ∧ (0 ≤ k ∧ k ≤ 3000) ∧ ((0 < PL P i.toNat 1 ∧ z = runL 120 (setL (PL P i.toNat) k (PL P i.toNat 3)) 6 - setL (PL P i.toNat) k (PL P i.toNat 3) 6) ∨ (PL P i.toNat 1 ≤ 0 ∧ z = 0)) ∧ v9 = some (.int (iI z)) ∧ w9 = [oX7 xo xi isz (a 0) xh xs sv xr xt xl xa xc, oX2 xa (A9 0) (A9 1) (A9 2) (A9 3) (A9 4) (A9 5) (A9 6) (A9 7) (A9 8) (A9 9), oX2 xl (B9 0) (B9 1) (B9 2) (B9 3) (B9 4) (B9 5) (B9 6) (B9 7) (B9 8) (B9 9), oX3 (a 0) (a 1) (a 2) (Pn P), arN X (a 1) 6 b, oX0 (a 2) (a 3) (a 4) (a 5) (Px P) (Pk P), arI X (a 3) 20 (Pa P), arI X (a 4) 20 (Pb P), arI X (a 5) 20 (Pd P)] ++ ((lsW b (PL P)))) (fun E9 w9 => ((E9 = "java/lang/IndexOutOfBoundsException" ∧ ¬ (0 ≤ i ∧ i < Pn P)) ∨ (E9 = "java/lang/IllegalArgumentException" ∧ (0 ≤ i ∧ i < Pn P) ∧ ¬ (0 ≤ k ∧ k ≤ 3000))) ∧ w9 = [oX7 xo xi isz (a 0) xh xs sv xr xt xl xa xc, oX2 xa (A0 0) (A0 1) (A0 2) (A0 3) (A0 4) (A0 5) (A0 6) (A0 7) (A0 8) (A0 9), oX2 xl (B0 0) (B0 1) (B0 2) (B0 3) (B0 4) (B0 5) (B0 6) (B0 7) (B0 8) (B0 9), oX3 (a 0) (a 1) (a 2) (Pn P), arN X (a 1) 6 b, oX0 (a 2) (a 3) (a 4) (a 5) (Px P) (Pk P), arI X (a 3) 20 (Pa P), arI X (a 4) 20 (Pb P), arI X (a 5) 20 (Pd P)] ++ ((lsW b (PL P)))) 2 12 := by
  refine lo_enterT (cc := cX7_interestIfRate) (maxL := 4) (ret := (some .int)) (lv := [(0, .ref xo), (1, .int (iI i)), (2, .int (iI k))]) (by decide) rfl rfl (Nat.le_of_ble_eq_true rfl) ?_
  intro p9 e9 s9 m9 bl9 me9 c9 A9 ls hAe E hRt hLk hK hl hw hV hT9
  have Ex := E.1
  have Eb := E.2.1
  have huRX2 : ∀ w ∈ u_ws RX2 TX2 10, w ∈ wsX7_interestIfRate := by decide +kernel
  have hf146 : (Cond.fieldLink RX7 146 "LoanSchedule$Loan" "monthsLeft" "I").before _ s9 = true := E.2.2.2.2 _ (List.mem_of_getElem? (i := 1) rfl)
  obtain ⟨⟨hn0, hn1⟩, ⟨hx0, hx1⟩, ⟨hk0, hk1⟩, hL⟩ := id hPI
  refine lv_aload_n Ex Eb dX7_interestIfRate_0 rfl (lv_at hl 0 rfl) ?_
  refine lv_iload_n Ex Eb dX7_interestIfRate_1 rfl (lv_at hl 1 rfl) ?_
  refine lo_callVT (q0 := 0) (rest := []) E hK hw hV (kX7_loanAt l X kS hst xo xi xh xs xr xt xl xa xc isz sv a b P i (by omega) (by omega)) (cwV 1 E.2.2.2.2 gX7_interestIfRate_X7_loanAt rfl rfl rfl (by decide +kernel) ⟨Nat.le_of_ble_eq_true rfl, Nat.le_of_ble_eq_true rfl⟩) rfl rfl [0, 3, 4, 5, 6, 7, 8, 9, 10, 11, 12, 13, 14] rfl (by decide) hl.1 rfl rfl (Nat.le_of_ble_eq_true rfl) dX7_interestIfRate_2 ⟨Nat.le_of_ble_eq_true rfl, Nat.le_of_ble_eq_true rfl⟩ (fun E9 ce9 q9 w1 H locs hq hw hx1 hx2 hx3 => ?_) (fun v w1 H locs hq hw => ?_)
  · obtain ⟨x2_0, x2_1, rfl⟩ := hq
    have hw : lo_Wd X ([oX7 xo xi isz (a 0) xh xs sv xr xt xl xa xc, oX2 xa (A0 0) (A0 1) (A0 2) (A0 3) (A0 4) (A0 5) (A0 6) (A0 7) (A0 8) (A0 9), oX2 xl (B0 0) (B0 1) (B0 2) (B0 3) (B0 4) (B0 5) (B0 6) (B0 7) (B0 8) (B0 9), oX3 (a 0) (a 1) (a 2) (Pn P), arN X (a 1) 6 b, oX0 (a 2) (a 3) (a 4) (a 5) (Px P) (Pk P), arI X (a 3) 20 (Pa P), arI X (a 4) 20 (Pb P), arI X (a 5) 20 (Pd P)] ++ ((lsW b (PL P)))) A9 s9.heap H locs := hw
    exact lo_out hT9 hLk hK hAe hw hx1 hx2 hx3 rfl (Nat.le_of_ble_eq_true rfl) (Nat.le_of_ble_eq_true rfl) ⟨(Or.inl ⟨x2_0, x2_1⟩), rfl⟩
  obtain ⟨q2_0, rfl, rfl⟩ := hq
  have hw : lo_Wd X ([oX7 xo xi isz (a 0) xh xs sv xr xt xl xa xc, oX2 xa (A0 0) (A0 1) (A0 2) (A0 3) (A0 4) (A0 5) (A0 6) (A0 7) (A0 8) (A0 9), oX2 xl (B0 0) (B0 1) (B0 2) (B0 3) (B0 4) (B0 5) (B0 6) (B0 7) (B0 8) (B0 9), oX3 (a 0) (a 1) (a 2) (Pn P), arN X (a 1) 6 b, oX0 (a 2) (a 3) (a 4) (a 5) (Px P) (Pk P), arI X (a 3) 20 (Pa P), arI X (a 4) 20 (Pb P), arI X (a 5) 20 (Pd P)] ++ ((lsW b (PL P)))) A9 s9.heap H locs := hw
  refine W.eq (g2 := F0 m9 5 ls [.ref (b i.toNat)]) rfl ?_
  refine lv_astore_n (lv' := [(3, .ref (b i.toNat)), (0, .ref xo), (1, .int (iI i)), (2, .int (iI k))]) Ex Eb dX7_interestIfRate_5 rfl hl (by decide) rfl (fun ls hl => ?_)
  have hLi := hL i.toNat (by omega)
  obtain ⟨⟨hb0, hb1⟩, ⟨hr0, hr1⟩, ⟨hc0, hc1⟩, ⟨hm0, hm1⟩, ⟨hi0, hi1⟩, ⟨hs0, hs1⟩, hop, hcl⟩ := id hLi
  refine lv_iload_n Ex Eb dX7_interestIfRate_6 rfl (lv_at hl 3 rfl) ?_
  refine lv_iconst (v := iI 0) Ex Eb dX7_interestIfRate_7 rfl ?_
  refine lv_sipush (v := iI 3000) Ex Eb dX7_interestIfRate_8 rfl ?_
  refine lo_callST (rest := []) E hK hw hV (kX7_requireRange l X kS hst k 0 3000 (by omega) (by omega) (by omega)) (cwS 3 E.2.2.2.2 gX7_interestIfRate_X7_requireRange rfl rfl rfl (by decide +kernel) ⟨Nat.le_of_ble_eq_true rfl, Nat.le_of_ble_eq_true rfl⟩) [] rfl (by decide) hl.1 rfl rfl (Nat.le_of_ble_eq_true rfl) dX7_interestIfRate_11 ⟨Nat.le_of_ble_eq_true rfl, Nat.le_of_ble_eq_true rfl⟩ (fun E9 ce9 q9 w1 H locs hq hw hx1 hx2 hx3 => ?_) (fun v w1 H locs hq hw => ?_)
  · obtain ⟨x11_0, x11_1, rfl⟩ := hq
    have hw : lo_Wd X ([oX7 xo xi isz (a 0) xh xs sv xr xt xl xa xc, oX2 xa (A0 0) (A0 1) (A0 2) (A0 3) (A0 4) (A0 5) (A0 6) (A0 7) (A0 8) (A0 9), oX2 xl (B0 0) (B0 1) (B0 2) (B0 3) (B0 4) (B0 5) (B0 6) (B0 7) (B0 8) (B0 9), oX3 (a 0) (a 1) (a 2) (Pn P), arN X (a 1) 6 b, oX0 (a 2) (a 3) (a 4) (a 5) (Px P) (Pk P), arI X (a 3) 20 (Pa P), arI X (a 4) 20 (Pb P), arI X (a 5) 20 (Pd P)] ++ ((lsW b (PL P)))) A9 s9.heap H locs := hw
    exact lo_out hT9 hLk hK hAe hw hx1 hx2 hx3 rfl (Nat.le_of_ble_eq_true rfl) (Nat.le_of_ble_eq_true rfl) ⟨(Or.inr ⟨x11_0, by omega, x11_1⟩), rfl⟩
  obtain ⟨q11_0, rfl, rfl⟩ := hq
  have hw : lo_Wd X ([oX7 xo xi isz (a 0) xh xs sv xr xt xl xa xc, oX2 xa (A0 0) (A0 1) (A0 2) (A0 3) (A0 4) (A0 5) (A0 6) (A0 7) (A0 8) (A0 9), oX2 xl (B0 0) (B0 1) (B0 2) (B0 3) (B0 4) (B0 5) (B0 6) (B0 7) (B0 8) (B0 9), oX3 (a 0) (a 1) (a 2) (Pn P), arN X (a 1) 6 b, oX0 (a 2) (a 3) (a 4) (a 5) (Px P) (Pk P), arI X (a 3) 20 (Pa P), arI X (a 4) 20 (Pb P), arI X (a 5) 20 (Pd P)] ++ ((lsW b (PL P)))) A9 s9.heap H locs := hw
  refine W.eq (g2 := F0 m9 14 ls []) rfl ?_
  refine lv_aload_n Ex Eb dX7_interestIfRate_14 rfl (lv_at hl 0 rfl) ?_
  refine lo_callV (q0 := (9 + i.toNat)) (rest := []) E hK hw (kX2_isRunning l X (b i.toNat) (PL P i.toNat) (by omega)) (cwV 0 E.2.2.2.2 gX7_interestIfRate_X2_isRunning rfl rfl rfl (by decide +kernel) ⟨Nat.le_of_ble_eq_true rfl, Nat.le_of_ble_eq_true rfl⟩) (lsW_atE (k := 9) rfl (by omega)) rfl [9 + i.toNat] (lo_ps_cons (lsW_atE (k := 9) rfl (by omega)) lo_ps_nil) (by simp [va_nd]) hl.1 rfl rfl (Nat.le_of_ble_eq_true rfl) dX7_interestIfRate_15 ⟨Nat.le_of_ble_eq_true rfl, Nat.le_of_ble_eq_true rfl⟩ (fun v w1 H locs hq hw => ?_)
  obtain ⟨r1, q15_0, rfl, rfl⟩ := hq
  have hw := lo_cast (lsW_cE0 (k := 9) rfl (by omega)) hw
  have hw : lo_Wd X ([oX7 xo xi isz (a 0) xh xs sv xr xt xl xa xc, oX2 xa (A0 0) (A0 1) (A0 2) (A0 3) (A0 4) (A0 5) (A0 6) (A0 7) (A0 8) (A0 9), oX2 xl (B0 0) (B0 1) (B0 2) (B0 3) (B0 4) (B0 5) (B0 6) (B0 7) (B0 8) (B0 9), oX3 (a 0) (a 1) (a 2) (Pn P), arN X (a 1) 6 b, oX0 (a 2) (a 3) (a 4) (a 5) (Px P) (Pk P), arI X (a 3) 20 (Pa P), arI X (a 4) 20 (Pb P), arI X (a 5) 20 (Pd P)] ++ ((lsW b (PL P)))) A9 s9.heap H locs := hw
  refine W.eq (g2 := F0 m9 18 ls [.int (iI r1)]) rfl ?_
  refine lo_if_eq (tgt := 34) E dX7_interestIfRate_18 (by decide) (by omega) (fun c2 => ?_) (fun c2 => ?_)
  · skip
    refine lv_iconst (v := iI 0) Ex Eb dX7_interestIfRate_34 rfl ?_
    refine vx_ret ?_
    exact lo_iret E hRt hLk hK hAe hw dX7_interestIfRate_35 rfl ⟨A0, B0, 0, (by omega), (by omega), (by first | exact Or.inl ⟨by omega, rfl⟩ | exact Or.inr ⟨by omega, rfl⟩), rfl, rfl⟩
  · skip
    refine lv_aload_n Ex Eb dX7_interestIfRate_21 rfl (lv_at hl 1 rfl) ?_
    refine lv_aload_n Ex Eb dX7_interestIfRate_22 rfl (lv_at hl 0 rfl) ?_
    refine lv_iload_n Ex Eb dX7_interestIfRate_23 rfl (lv_at hl 3 rfl) ?_
    refine lv_aload_n Ex Eb dX7_interestIfRate_24 rfl (lv_at hl 0 rfl) ?_
    refine lo_get E hK hw huRX2 3 hf146 rfl (9 + i.toNat) (lsW_atE (k := 9) rfl (by omega)) rfl (by decide) (v := .int (iI (PL P i.toNat 3))) rfl dX7_interestIfRate_25 ?_
    refine lo_callV (q0 := 0) (rest := []) E hK hw (kX7_interestWithTerms l X xo xi xh xs xr xt xl xa xc isz sv (a 0) (b i.toNat) A0 B0 (PL P i.toNat) k (PL P i.toNat 3) (hLi) (by omega) (by omega) (by have := (hop (by omega)).1; omega)) (cwV 3 E.2.2.2.2 gX7_interestIfRate_X7_interestWithTerms rfl rfl rfl (by decide +kernel) ⟨Nat.le_of_ble_eq_true rfl, Nat.le_of_ble_eq_true rfl⟩) rfl rfl [0, 1, 2, 9 + i.toNat] (lo_ps_cons rfl (lo_ps_cons rfl (lo_ps_cons rfl (lo_ps_cons (lsW_atE (k := 9) rfl (by omega)) lo_ps_nil)))) (by simp [va_nd]; try omega) hl.1 rfl rfl (Nat.le_of_ble_eq_true rfl) dX7_interestIfRate_28 ⟨Nat.le_of_ble_eq_true rfl, Nat.le_of_ble_eq_true rfl⟩ (fun v w1 H locs hq hw => ?_)
    obtain ⟨rfl, rfl⟩ := hq
    have hw := lo_cast (lsW_k (k := 9) (ps := [0, 1, 2]) (w1 := [oX7 xo xi isz (a 0) xh xs sv xr xt xl xa xc, oX2 xa (runL 120 (setL (PL P i.toNat) k (PL P i.toNat 3)) 0) (runL 120 (setL (PL P i.toNat) k (PL P i.toNat 3)) 1) (runL 120 (setL (PL P i.toNat) k (PL P i.toNat 3)) 2) (runL 120 (setL (PL P i.toNat) k (PL P i.toNat 3)) 3) (runL 120 (setL (PL P i.toNat) k (PL P i.toNat 3)) 4) (runL 120 (setL (PL P i.toNat) k (PL P i.toNat 3)) 5) (runL 120 (setL (PL P i.toNat) k (PL P i.toNat 3)) 6) (runL 120 (setL (PL P i.toNat) k (PL P i.toNat 3)) 7) (runL 120 (setL (PL P i.toNat) k (PL P i.toNat 3)) 8) (runL 120 (setL (PL P i.toNat) k (PL P i.toNat 3)) 9), oX2 xl (setL (PL P i.toNat) k (PL P i.toNat 3) 0) (setL (PL P i.toNat) k (PL P i.toNat 3) 1) (setL (PL P i.toNat) k (PL P i.toNat 3) 2) (setL (PL P i.toNat) k (PL P i.toNat 3) 3) (setL (PL P i.toNat) k (PL P i.toNat 3) 4) (setL (PL P i.toNat) k (PL P i.toNat 3) 5) (setL (PL P i.toNat) k (PL P i.toNat 3) 6) (setL (PL P i.toNat) k (PL P i.toNat 3) 7) (setL (PL P i.toNat) k (PL P i.toNat 3) 8) (setL (PL P i.toNat) k (PL P i.toNat 3) 9)]) rfl (by omega) (by decide) rfl rfl) hw
    have hw : lo_Wd X ([oX7 xo xi isz (a 0) xh xs sv xr xt xl xa xc, oX2 xa (runL 120 (setL (PL P i.toNat) k (PL P i.toNat 3)) 0) (runL 120 (setL (PL P i.toNat) k (PL P i.toNat 3)) 1) (runL 120 (setL (PL P i.toNat) k (PL P i.toNat 3)) 2) (runL 120 (setL (PL P i.toNat) k (PL P i.toNat 3)) 3) (runL 120 (setL (PL P i.toNat) k (PL P i.toNat 3)) 4) (runL 120 (setL (PL P i.toNat) k (PL P i.toNat 3)) 5) (runL 120 (setL (PL P i.toNat) k (PL P i.toNat 3)) 6) (runL 120 (setL (PL P i.toNat) k (PL P i.toNat 3)) 7) (runL 120 (setL (PL P i.toNat) k (PL P i.toNat 3)) 8) (runL 120 (setL (PL P i.toNat) k (PL P i.toNat 3)) 9), oX2 xl (setL (PL P i.toNat) k (PL P i.toNat 3) 0) (setL (PL P i.toNat) k (PL P i.toNat 3) 1) (setL (PL P i.toNat) k (PL P i.toNat 3) 2) (setL (PL P i.toNat) k (PL P i.toNat 3) 3) (setL (PL P i.toNat) k (PL P i.toNat 3) 4) (setL (PL P i.toNat) k (PL P i.toNat 3) 5) (setL (PL P i.toNat) k (PL P i.toNat 3) 6) (setL (PL P i.toNat) k (PL P i.toNat 3) 7) (setL (PL P i.toNat) k (PL P i.toNat 3) 8) (setL (PL P i.toNat) k (PL P i.toNat 3) 9), oX3 (a 0) (a 1) (a 2) (Pn P), arN X (a 1) 6 b, oX0 (a 2) (a 3) (a 4) (a 5) (Px P) (Pk P), arI X (a 3) 20 (Pa P), arI X (a 4) 20 (Pb P), arI X (a 5) 20 (Pd P)] ++ ((lsW b (PL P)))) A9 s9.heap H locs := hw
    refine W.eq (g2 := F0 m9 31 ls [.int (iI (runL 120 (setL (PL P i.toNat) k (PL P i.toNat 3)) 6 - setL (PL P i.toNat) k (PL P i.toNat 3) 6))]) rfl ?_
    refine lv_goto (tgt := 35) Ex Eb dX7_interestIfRate_31 (by decide) ?_
    refine vx_ret ?_
    exact lo_iret E hRt hLk hK hAe hw dX7_interestIfRate_35 rfl ⟨runL 120 (setL (PL P i.toNat) k (PL P i.toNat 3)), setL (PL P i.toNat) k (PL P i.toNat 3), runL 120 (setL (PL P i.toNat) k (PL P i.toNat 3)) 6 - setL (PL P i.toNat) k (PL P i.toNat 3) 6, (by omega), (by omega), (by first | exact Or.inl ⟨by omega, rfl⟩ | exact Or.inr ⟨by omega, rfl⟩), rfl, rfl⟩
set_option maxHeartbeats 4000000 in
set_option maxRecDepth 100000 in
theorem kX7_isCheaper (l : Launch) (X : KX) (kS : Nat → Nat) (hst : l.stackTraces = false) (xo xi xh xs xr xt xl xa xc : Nat) (isz sv : Int) (A0 B0 : Nat → Int) (a b : Nat → Nat) (P : PT) (i k m : Int) (hPI : PI P) (hi9 : i32 i) (hk9 : i32 k) (hm99 : i32 m) : CT l X kS yX7_isCheaper wsX7_isCheaper ({ frames := 7, cells := 3, slots := 18, locals := 122 }) [.ref xo, .int (iI i), .int (iI k), .int (iI m)] ([oX7 xo xi isz (a 0) xh xs sv xr xt xl xa xc, oX2 xa (A0 0) (A0 1) (A0 2) (A0 3) (A0 4) (A0 5) (A0 6) (A0 7) (A0 8) (A0 9), oX2 xl (B0 0) (B0 1) (B0 2) (B0 3) (B0 4) (B0 5) (B0 6) (B0 7) (B0 8) (B0 9), oX3 (a 0) (a 1) (a 2) (Pn P), arN X (a 1) 6 b, oX0 (a 2) (a 3) (a 4) (a 5) (Px P) (Pk P), arI X (a 3) 20 (Pa P), arI X (a 4) 20 (Pb P), arI X (a 5) 20 (Pd P)] ++ ((lsW b (PL P)))) (fun v9 w9 => ∃ A9 : Nat → Int, ∃ B9 : Nat → Int, ∃ z : Int, (0 ≤ i ∧ i < Pn P) ∧ ((0 ≤ k ∧ k ≤ 3000) ∧ (1 ≤ m ∧ m ≤ 120)) ∧ ((z = 1 ∧ 0 < PL P i.toNat 1 ∧ runL 120 (setL (PL P i.toNat) k m) 6 - setL (PL P i.toNat) k m 6 < runL 120 (PL P i.toNat) 6 - PL P i.toNat 6) ∨ (z = 0 ∧ ¬ (0 < PL P i.toNat 1 ∧ runL 120 (setL (PL P i.toNat) k m) 6 - setL (PL P i.toNat) k m 6 < runL 120 (PL P i.toNat) 6 - PL P i.toNat 6))) ∧ v9 = some (.int (iI z)) ∧ w9 = [oX7 xo xi isz (a 0) xh xs sv xr xt xl xa xc, oX2 xa (A9 0) (A9 1) (A9 2) (A9 3) (A9 4) (A9 5) (A9 6) (A9 7) (A9 8) (A9 9), oX2 xl (B9 0) (B9 1) (B9 2) (B9 3) (B9 4) (B9 5) (B9 6) (B9 7) (B9 8) (B9 9), oX3 (a 0) (a 1) (a 2) (Pn P), arN X (a 1) 6 b, oX0 (a 2) (a 3) (a 4) (a 5) (Px P) (Pk P), arI X (a 3) 20 (Pa P), arI X (a 4) 20 (Pb P), arI X (a 5) 20 (Pd P)] ++ ((lsW b (PL P)))) (fun E9 w9 => ((E9 = "java/lang/IndexOutOfBoundsException" ∧ ¬ (0 ≤ i ∧ i < Pn P)) ∨ (E9 = "java/lang/IllegalArgumentException" ∧ (0 ≤ i ∧ i < Pn P) ∧ ¬ ((0 ≤ k ∧ k ≤ 3000) ∧ (1 ≤ m ∧ m ≤ 120)))) ∧ w9 = [oX7 xo xi isz (a 0) xh xs sv xr xt xl xa xc, oX2 xa (A0 0) (A0 1) (A0 2) (A0 3) (A0 4) (A0 5) (A0 6) (A0 7) (A0 8) (A0 9), oX2 xl (B0 0) (B0 1) (B0 2) (B0 3) (B0 4) (B0 5) (B0 6) (B0 7) (B0 8) (B0 9), oX3 (a 0) (a 1) (a 2) (Pn P), arN X (a 1) 6 b, oX0 (a 2) (a 3) (a 4) (a 5) (Px P) (Pk P), arI X (a 3) 20 (Pa P), arI X (a 4) 20 (Pb P), arI X (a 5) 20 (Pd P)] ++ ((lsW b (PL P)))) 3 18 := by
  refine lo_enterT (cc := cX7_isCheaper) (maxL := 5) (ret := (some .boolean)) (lv := [(0, .ref xo), (1, .int (iI i)), (2, .int (iI k)), (3, .int (iI m))]) (by decide) rfl rfl (Nat.le_of_ble_eq_true rfl) ?_
  intro p9 e9 s9 m9 bl9 me9 c9 A9 ls hAe E hRt hLk hK hl hw hV hT9
  have Ex := E.1
  have Eb := E.2.1
  obtain ⟨⟨hn0, hn1⟩, ⟨hx0, hx1⟩, ⟨hk0, hk1⟩, hL⟩ := id hPI
  refine lv_aload_n Ex Eb dX7_isCheaper_0 rfl (lv_at hl 0 rfl) ?_
  refine lv_iload_n Ex Eb dX7_isCheaper_1 rfl (lv_at hl 1 rfl) ?_
  refine lo_callVT (q0 := 0) (rest := []) E hK hw hV (kX7_loanAt l X kS hst xo xi xh xs xr xt xl xa xc isz sv a b P i (by omega) (by omega)) (cwV 1 E.2.2.2.2 gX7_isCheaper_X7_loanAt rfl rfl rfl (by decide +kernel) ⟨Nat.le_of_ble_eq_true rfl, Nat.le_of_ble_eq_true rfl⟩) rfl rfl [0, 3, 4, 5, 6, 7, 8, 9, 10, 11, 12, 13, 14] rfl (by decide) hl.1 rfl rfl (Nat.le_of_ble_eq_true rfl) dX7_isCheaper_2 ⟨Nat.le_of_ble_eq_true rfl, Nat.le_of_ble_eq_true rfl⟩ (fun E9 ce9 q9 w1 H locs hq hw hx1 hx2 hx3 => ?_) (fun v w1 H locs hq hw => ?_)
  · obtain ⟨x2_0, x2_1, rfl⟩ := hq
    have hw : lo_Wd X ([oX7 xo xi isz (a 0) xh xs sv xr xt xl xa xc, oX2 xa (A0 0) (A0 1) (A0 2) (A0 3) (A0 4) (A0 5) (A0 6) (A0 7) (A0 8) (A0 9), oX2 xl (B0 0) (B0 1) (B0 2) (B0 3) (B0 4) (B0 5) (B0 6) (B0 7) (B0 8) (B0 9), oX3 (a 0) (a 1) (a 2) (Pn P), arN X (a 1) 6 b, oX0 (a 2) (a 3) (a 4) (a 5) (Px P) (Pk P), arI X (a 3) 20 (Pa P), arI X (a 4) 20 (Pb P), arI X (a 5) 20 (Pd P)] ++ ((lsW b (PL P)))) A9 s9.heap H locs := hw
    exact lo_out hT9 hLk hK hAe hw hx1 hx2 hx3 rfl (Nat.le_of_ble_eq_true rfl) (Nat.le_of_ble_eq_true rfl) ⟨(Or.inl ⟨x2_0, x2_1⟩), rfl⟩
  obtain ⟨q2_0, rfl, rfl⟩ := hq
  have hw : lo_Wd X ([oX7 xo xi isz (a 0) xh xs sv xr xt xl xa xc, oX2 xa (A0 0) (A0 1) (A0 2) (A0 3) (A0 4) (A0 5) (A0 6) (A0 7) (A0 8) (A0 9), oX2 xl (B0 0) (B0 1) (B0 2) (B0 3) (B0 4) (B0 5) (B0 6) (B0 7) (B0 8) (B0 9), oX3 (a 0) (a 1) (a 2) (Pn P), arN X (a 1) 6 b, oX0 (a 2) (a 3) (a 4) (a 5) (Px P) (Pk P), arI X (a 3) 20 (Pa P), arI X (a 4) 20 (Pb P), arI X (a 5) 20 (Pd P)] ++ ((lsW b (PL P)))) A9 s9.heap H locs := hw
  refine W.eq (g2 := F0 m9 5 ls [.ref (b i.toNat)]) rfl ?_
  refine lv_astore (lv' := [(4, .ref (b i.toNat)), (0, .ref xo), (1, .int (iI i)), (2, .int (iI k)), (3, .int (iI m))]) Ex Eb dX7_isCheaper_5 hl (by decide) rfl (fun ls hl => ?_)
  have hLi := hL i.toNat (by omega)
  obtain ⟨⟨hb0, hb1⟩, ⟨hr0, hr1⟩, ⟨hc0, hc1⟩, ⟨hm0, hm1⟩, ⟨hi0, hi1⟩, ⟨hs0, hs1⟩, hop, hcl⟩ := id hLi
  refine lv_iload_n Ex Eb dX7_isCheaper_7 rfl (lv_at hl 3 rfl) ?_
  refine lv_iconst (v := iI 0) Ex Eb dX7_isCheaper_8 rfl ?_
  refine lv_sipush (v := iI 3000) Ex Eb dX7_isCheaper_9 rfl ?_
  refine lo_callST (rest := []) E hK hw hV (kX7_requireRange l X kS hst k 0 3000 (by omega) (by omega) (by omega)) (cwS 3 E.2.2.2.2 gX7_isCheaper_X7_requireRange rfl rfl rfl (by decide +kernel) ⟨Nat.le_of_ble_eq_true rfl, Nat.le_of_ble_eq_true rfl⟩) [] rfl (by decide) hl.1 rfl rfl (Nat.le_of_ble_eq_true rfl) dX7_isCheaper_12 ⟨Nat.le_of_ble_eq_true rfl, Nat.le_of_ble_eq_true rfl⟩ (fun E9 ce9 q9 w1 H locs hq hw hx1 hx2 hx3 => ?_) (fun v w1 H locs hq hw => ?_)
  · obtain ⟨x12_0, x12_1, rfl⟩ := hq
    have hw : lo_Wd X ([oX7 xo xi isz (a 0) xh xs sv xr xt xl xa xc, oX2 xa (A0 0) (A0 1) (A0 2) (A0 3) (A0 4) (A0 5) (A0 6) (A0 7) (A0 8) (A0 9), oX2 xl (B0 0) (B0 1) (B0 2) (B0 3) (B0 4) (B0 5) (B0 6) (B0 7) (B0 8) (B0 9), oX3 (a 0) (a 1) (a 2) (Pn P), arN X (a 1) 6 b, oX0 (a 2) (a 3) (a 4) (a 5) (Px P) (Pk P), arI X (a 3) 20 (Pa P), arI X (a 4) 20 (Pb P), arI X (a 5) 20 (Pd P)] ++ ((lsW b (PL P)))) A9 s9.heap H locs := hw
    exact lo_out hT9 hLk hK hAe hw hx1 hx2 hx3 rfl (Nat.le_of_ble_eq_true rfl) (Nat.le_of_ble_eq_true rfl) ⟨(Or.inr ⟨x12_0, by omega, by omega⟩), rfl⟩
  obtain ⟨q12_0, rfl, rfl⟩ := hq
  have hw : lo_Wd X ([oX7 xo xi isz (a 0) xh xs sv xr xt xl xa xc, oX2 xa (A0 0) (A0 1) (A0 2) (A0 3) (A0 4) (A0 5) (A0 6) (A0 7) (A0 8) (A0 9), oX2 xl (B0 0) (B0 1) (B0 2) (B0 3) (B0 4) (B0 5) (B0 6) (B0 7) (B0 8) (B0 9), oX3 (a 0) (a 1) (a 2) (Pn P), arN X (a 1) 6 b, oX0 (a 2) (a 3) (a 4) (a 5) (Px P) (Pk P), arI X (a 3) 20 (Pa P), arI X (a 4) 20 (Pb P), arI X (a 5) 20 (Pd P)] ++ ((lsW b (PL P)))) A9 s9.heap H locs := hw
  refine W.eq (g2 := F0 m9 15 ls []) rfl ?_
  refine lv_iload_n Ex Eb dX7_isCheaper_15 rfl (lv_at hl 4 rfl) ?_
  refine lv_iconst (v := iI 1) Ex Eb dX7_isCheaper_16 rfl ?_
  refine lv_bipush (v := iI 120) Ex Eb dX7_isCheaper_17 rfl ?_
  refine lo_callST (rest := []) E hK hw hV (kX7_requireRange l X kS hst m 1 120 (by omega) (by omega) (by omega)) (cwS 3 E.2.2.2.2 gX7_isCheaper_X7_requireRange rfl rfl rfl (by decide +kernel) ⟨Nat.le_of_ble_eq_true rfl, Nat.le_of_ble_eq_true rfl⟩) [] rfl (by decide) hl.1 rfl rfl (Nat.le_of_ble_eq_true rfl) dX7_isCheaper_19 ⟨Nat.le_of_ble_eq_true rfl, Nat.le_of_ble_eq_true rfl⟩ (fun E9 ce9 q9 w1 H locs hq hw hx1 hx2 hx3 => ?_) (fun v w1 H locs hq hw => ?_)
  · obtain ⟨x19_0, x19_1, rfl⟩ := hq
    have hw : lo_Wd X ([oX7 xo xi isz (a 0) xh xs sv xr xt xl xa xc, oX2 xa (A0 0) (A0 1) (A0 2) (A0 3) (A0 4) (A0 5) (A0 6) (A0 7) (A0 8) (A0 9), oX2 xl (B0 0) (B0 1) (B0 2) (B0 3) (B0 4) (B0 5) (B0 6) (B0 7) (B0 8) (B0 9), oX3 (a 0) (a 1) (a 2) (Pn P), arN X (a 1) 6 b, oX0 (a 2) (a 3) (a 4) (a 5) (Px P) (Pk P), arI X (a 3) 20 (Pa P), arI X (a 4) 20 (Pb P), arI X (a 5) 20 (Pd P)] ++ ((lsW b (PL P)))) A9 s9.heap H locs := hw
    exact lo_out hT9 hLk hK hAe hw hx1 hx2 hx3 rfl (Nat.le_of_ble_eq_true rfl) (Nat.le_of_ble_eq_true rfl) ⟨(Or.inr ⟨x19_0, by omega, by omega⟩), rfl⟩
  obtain ⟨q19_0, rfl, rfl⟩ := hq
  have hw : lo_Wd X ([oX7 xo xi isz (a 0) xh xs sv xr xt xl xa xc, oX2 xa (A0 0) (A0 1) (A0 2) (A0 3) (A0 4) (A0 5) (A0 6) (A0 7) (A0 8) (A0 9), oX2 xl (B0 0) (B0 1) (B0 2) (B0 3) (B0 4) (B0 5) (B0 6) (B0 7) (B0 8) (B0 9), oX3 (a 0) (a 1) (a 2) (Pn P), arN X (a 1) 6 b, oX0 (a 2) (a 3) (a 4) (a 5) (Px P) (Pk P), arI X (a 3) 20 (Pa P), arI X (a 4) 20 (Pb P), arI X (a 5) 20 (Pd P)] ++ ((lsW b (PL P)))) A9 s9.heap H locs := hw
  refine W.eq (g2 := F0 m9 22 ls []) rfl ?_
  refine lv_aload Ex Eb dX7_isCheaper_22 (lv_at hl 0 rfl) ?_
  refine lo_callV (q0 := (9 + i.toNat)) (rest := []) E hK hw (kX2_isRunning l X (b i.toNat) (PL P i.toNat) (by omega)) (cwV 0 E.2.2.2.2 gX7_isCheaper_X2_isRunning rfl rfl rfl (by decide +kernel) ⟨Nat.le_of_ble_eq_true rfl, Nat.le_of_ble_eq_true rfl⟩) (lsW_atE (k := 9) rfl (by omega)) rfl [9 + i.toNat] (lo_ps_cons (lsW_atE (k := 9) rfl (by omega)) lo_ps_nil) (by simp [va_nd]) hl.1 rfl rfl (Nat.le_of_ble_eq_true rfl) dX7_isCheaper_24 ⟨Nat.le_of_ble_eq_true rfl, Nat.le_of_ble_eq_true rfl⟩ (fun v w1 H locs hq hw => ?_)
  obtain ⟨r1, q24_0, rfl, rfl⟩ := hq
  have hw := lo_cast (lsW_cE0 (k := 9) rfl (by omega)) hw
  have hw : lo_Wd X ([oX7 xo xi isz (a 0) xh xs sv xr xt xl xa xc, oX2 xa (A0 0) (A0 1) (A0 2) (A0 3) (A0 4) (A0 5) (A0 6) (A0 7) (A0 8) (A0 9), oX2 xl (B0 0) (B0 1) (B0 2) (B0 3) (B0 4) (B0 5) (B0 6) (B0 7) (B0 8) (B0 9), oX3 (a 0) (a 1) (a 2) (Pn P), arN X (a 1) 6 b, oX0 (a 2) (a 3) (a 4) (a 5) (Px P) (Pk P), arI X (a 3) 20 (Pa P), arI X (a 4) 20 (Pb P), arI X (a 5) 20 (Pd P)] ++ ((lsW b (PL P)))) A9 s9.heap H locs := hw
  refine W.eq (g2 := F0 m9 27 ls [.int (iI r1)]) rfl ?_
  refine lo_if_eq (tgt := 51) E dX7_isCheaper_27 (by decide) (by omega) (fun c2 => ?_) (fun c2 => ?_)
  · skip
    refine lv_iconst (v := iI 0) Ex Eb dX7_isCheaper_51 rfl ?_
    refine vx_ret ?_
    exact lo_zret E hRt hLk hK hAe hw dX7_isCheaper_52 (by first | rfl | exact nar_b (by omega)) rfl ⟨A0, B0, 0, (by omega), (by omega), (by omega), rfl, rfl⟩
  · skip
    refine lv_aload_n Ex Eb dX7_isCheaper_30 rfl (lv_at hl 1 rfl) ?_
    refine lv_aload Ex Eb dX7_isCheaper_31 (lv_at hl 0 rfl) ?_
    refine lv_iload_n Ex Eb dX7_isCheaper_33 rfl (lv_at hl 3 rfl) ?_
    refine lv_iload_n Ex Eb dX7_isCheaper_34 rfl (lv_at hl 4 rfl) ?_
    have hST := setL_LI (m := m) hLi (show 0 < PL P i.toNat 1 by omega) (show 0 ≤ k by omega) (show k ≤ 3000 by omega) (show 1 ≤ m by omega) (show m ≤ 120 by omega)
    have hr1 := runL_6 120 _ hLi
    have hr2 := runL_6 120 _ hST
    refine lo_callV (q0 := 0) (rest := []) E hK hw (kX7_interestWithTerms l X xo xi xh xs xr xt xl xa xc isz sv (a 0) (b i.toNat) A0 B0 (PL P i.toNat) k m (hLi) (by omega) (by omega) (by omega)) (cwV 3 E.2.2.2.2 gX7_isCheaper_X7_interestWithTerms rfl rfl rfl (by decide +kernel) ⟨Nat.le_of_ble_eq_true rfl, Nat.le_of_ble_eq_true rfl⟩) rfl rfl [0, 1, 2, 9 + i.toNat] (lo_ps_cons rfl (lo_ps_cons rfl (lo_ps_cons rfl (lo_ps_cons (lsW_atE (k := 9) rfl (by omega)) lo_ps_nil)))) (by simp [va_nd]; try omega) hl.1 rfl rfl (Nat.le_of_ble_eq_true rfl) dX7_isCheaper_35 ⟨Nat.le_of_ble_eq_true rfl, Nat.le_of_ble_eq_true rfl⟩ (fun v w1 H locs hq hw => ?_)
    obtain ⟨rfl, rfl⟩ := hq
    have hw := lo_cast (lsW_k (k := 9) (ps := [0, 1, 2]) (w1 := [oX7 xo xi isz (a 0) xh xs sv xr xt xl xa xc, oX2 xa (runL 120 (setL (PL P i.toNat) k m) 0) (runL 120 (setL (PL P i.toNat) k m) 1) (runL 120 (setL (PL P i.toNat) k m) 2) (runL 120 (setL (PL P i.toNat) k m) 3) (runL 120 (setL (PL P i.toNat) k m) 4) (runL 120 (setL (PL P i.toNat) k m) 5) (runL 120 (setL (PL P i.toNat) k m) 6) (runL 120 (setL (PL P i.toNat) k m) 7) (runL 120 (setL (PL P i.toNat) k m) 8) (runL 120 (setL (PL P i.toNat) k m) 9), oX2 xl (setL (PL P i.toNat) k m 0) (setL (PL P i.toNat) k m 1) (setL (PL P i.toNat) k m 2) (setL (PL P i.toNat) k m 3) (setL (PL P i.toNat) k m 4) (setL (PL P i.toNat) k m 5) (setL (PL P i.toNat) k m 6) (setL (PL P i.toNat) k m 7) (setL (PL P i.toNat) k m 8) (setL (PL P i.toNat) k m 9)]) rfl (by omega) (by decide) rfl rfl) hw
    have hw : lo_Wd X ([oX7 xo xi isz (a 0) xh xs sv xr xt xl xa xc, oX2 xa (runL 120 (setL (PL P i.toNat) k m) 0) (runL 120 (setL (PL P i.toNat) k m) 1) (runL 120 (setL (PL P i.toNat) k m) 2) (runL 120 (setL (PL P i.toNat) k m) 3) (runL 120 (setL (PL P i.toNat) k m) 4) (runL 120 (setL (PL P i.toNat) k m) 5) (runL 120 (setL (PL P i.toNat) k m) 6) (runL 120 (setL (PL P i.toNat) k m) 7) (runL 120 (setL (PL P i.toNat) k m) 8) (runL 120 (setL (PL P i.toNat) k m) 9), oX2 xl (setL (PL P i.toNat) k m 0) (setL (PL P i.toNat) k m 1) (setL (PL P i.toNat) k m 2) (setL (PL P i.toNat) k m 3) (setL (PL P i.toNat) k m 4) (setL (PL P i.toNat) k m 5) (setL (PL P i.toNat) k m 6) (setL (PL P i.toNat) k m 7) (setL (PL P i.toNat) k m 8) (setL (PL P i.toNat) k m 9), oX3 (a 0) (a 1) (a 2) (Pn P), arN X (a 1) 6 b, oX0 (a 2) (a 3) (a 4) (a 5) (Px P) (Pk P), arI X (a 3) 20 (Pa P), arI X (a 4) 20 (Pb P), arI X (a 5) 20 (Pd P)] ++ ((lsW b (PL P)))) A9 s9.heap H locs := hw
    refine W.eq (g2 := F0 m9 38 ls [.int (iI (runL 120 (setL (PL P i.toNat) k m) 6 - setL (PL P i.toNat) k m 6))]) rfl ?_
    refine lv_aload_n Ex Eb dX7_isCheaper_38 rfl (lv_at hl 1 rfl) ?_
    refine lv_aload Ex Eb dX7_isCheaper_39 (lv_at hl 0 rfl) ?_
    refine lo_callV (q0 := 0) (rest := [.int (iI (runL 120 (setL (PL P i.toNat) k m) 6 - setL (PL P i.toNat) k m 6))]) E hK hw (kX7_interestToCome l X xo xi xh xs xr xt xl xa xc isz sv (a 0) (b i.toNat) (runL 120 (setL (PL P i.toNat) k m)) (PL P i.toNat) (hLi)) (cwV 1 E.2.2.2.2 gX7_isCheaper_X7_interestToCome rfl rfl rfl (by decide +kernel) ⟨Nat.le_of_ble_eq_true rfl, Nat.le_of_ble_eq_true rfl⟩) rfl rfl [0, 1, 9 + i.toNat] (lo_ps_cons rfl (lo_ps_cons rfl (lo_ps_cons (lsW_atE (k := 9) rfl (by omega)) lo_ps_nil))) (by simp [va_nd]; try omega) hl.1 rfl rfl (Nat.le_of_ble_eq_true rfl) dX7_isCheaper_41 ⟨Nat.le_of_ble_eq_true rfl, Nat.le_of_ble_eq_true rfl⟩ (fun v w1 H locs hq hw => ?_)
    obtain ⟨rfl, rfl⟩ := hq
    have hw := lo_cast (lsW_k (k := 9) (ps := [0, 1]) (w1 := [oX7 xo xi isz (a 0) xh xs sv xr xt xl xa xc, oX2 xa (runL 120 (PL P i.toNat) 0) (runL 120 (PL P i.toNat) 1) (runL 120 (PL P i.toNat) 2) (runL 120 (PL P i.toNat) 3) (runL 120 (PL P i.toNat) 4) (runL 120 (PL P i.toNat) 5) (runL 120 (PL P i.toNat) 6) (runL 120 (PL P i.toNat) 7) (runL 120 (PL P i.toNat) 8) (runL 120 (PL P i.toNat) 9)]) rfl (by omega) (by decide) rfl rfl) hw
    have hw : lo_Wd X ([oX7 xo xi isz (a 0) xh xs sv xr xt xl xa xc, oX2 xa (runL 120 (PL P i.toNat) 0) (runL 120 (PL P i.toNat) 1) (runL 120 (PL P i.toNat) 2) (runL 120 (PL P i.toNat) 3) (runL 120 (PL P i.toNat) 4) (runL 120 (PL P i.toNat) 5) (runL 120 (PL P i.toNat) 6) (runL 120 (PL P i.toNat) 7) (runL 120 (PL P i.toNat) 8) (runL 120 (PL P i.toNat) 9), oX2 xl (setL (PL P i.toNat) k m 0) (setL (PL P i.toNat) k m 1) (setL (PL P i.toNat) k m 2) (setL (PL P i.toNat) k m 3) (setL (PL P i.toNat) k m 4) (setL (PL P i.toNat) k m 5) (setL (PL P i.toNat) k m 6) (setL (PL P i.toNat) k m 7) (setL (PL P i.toNat) k m 8) (setL (PL P i.toNat) k m 9), oX3 (a 0) (a 1) (a 2) (Pn P), arN X (a 1) 6 b, oX0 (a 2) (a 3) (a 4) (a 5) (Px P) (Pk P), arI X (a 3) 20 (Pa P), arI X (a 4) 20 (Pb P), arI X (a 5) 20 (Pd P)] ++ ((lsW b (PL P)))) A9 s9.heap H locs := hw
    refine W.eq (g2 := F0 m9 44 ls [.int (iI (runL 120 (PL P i.toNat) 6 - (PL P i.toNat) 6)), .int (iI (runL 120 (setL (PL P i.toNat) k m) 6 - setL (PL P i.toNat) k m 6))]) rfl ?_
    refine lo_icmp_ge (tgt := 51) E dX7_isCheaper_44 (by decide) (by omega) (by omega) (fun c3 => ?_) (fun c3 => ?_)
    · skip
      refine lv_iconst (v := iI 0) Ex Eb dX7_isCheaper_51 rfl ?_
      refine vx_ret ?_
      exact lo_zret E hRt hLk hK hAe hw dX7_isCheaper_52 (by first | rfl | exact nar_b (by omega)) rfl ⟨runL 120 (PL P i.toNat), setL (PL P i.toNat) k m, 0, (by omega), (by omega), (by omega), rfl, rfl⟩
    · skip
      refine lv_iconst (v := iI 1) Ex Eb dX7_isCheaper_47 rfl ?_
      refine lv_goto (tgt := 52) Ex Eb dX7_isCheaper_48 (by decide) ?_
      refine vx_ret ?_
      exact lo_zret E hRt hLk hK hAe hw dX7_isCheaper_52 (by first | rfl | exact nar_b (by omega)) rfl ⟨runL 120 (PL P i.toNat), setL (PL P i.toNat) k m, 1, (by omega), (by omega), (by omega), rfl, rfl⟩
