set_option maxHeartbeats 4000000 in
set_option maxRecDepth 100000 in
theorem kX3_copyFrom (l : Launch) (X : KX) (a b f g : Nat → Nat) (P Q : PT) (hPI : PI Q) : CM l X yX3_copyFrom wsX3_copyFrom ({ frames := 2, cells := 0, slots := 0, locals := 81 }) [.ref (a 0), .ref (f 0)] ([oX3 (a 0) (a 1) (a 2) (Pn P), arN X (a 1) 6 b, oX0 (a 2) (a 3) (a 4) (a 5) (Px P) (Pk P), arI X (a 3) 20 (Pa P), arI X (a 4) 20 (Pb P), arI X (a 5) 20 (Pd P), oX3 (f 0) (f 1) (f 2) (Pn Q), arN X (f 1) 6 g, oX0 (f 2) (f 3) (f 4) (f 5) (Px Q) (Pk Q), arI X (f 3) 20 (Pa Q), arI X (f 4) 20 (Pb Q), arI X (f 5) 20 (Pd Q)] ++ ((lsW b (PL P)) ++ ((lsW g (PL Q))))) (fun v9 w9 => v9 = none ∧ w9 = [oX3 (a 0) (a 1) (a 2) (Pn (cpP P Q)), arN X (a 1) 6 b, oX0 (a 2) (a 3) (a 4) (a 5) (Px (cpP P Q)) (Pk (cpP P Q)), arI X (a 3) 20 (Pa (cpP P Q)), arI X (a 4) 20 (Pb (cpP P Q)), arI X (a 5) 20 (Pd (cpP P Q)), oX3 (f 0) (f 1) (f 2) (Pn Q), arN X (f 1) 6 g, oX0 (f 2) (f 3) (f 4) (f 5) (Px Q) (Pk Q), arI X (f 3) 20 (Pa Q), arI X (f 4) 20 (Pb Q), arI X (f 5) 20 (Pd Q)] ++ ((lsW b (PL (cpP P Q))) ++ ((lsW g (PL Q))))) 0 0 := by
  refine lo_enter (cc := cX3_copyFrom) (maxL := 3) (ret := none) (lv := [(0, .ref (a 0)), (1, .ref (f 0))]) (by decide) rfl rfl (Nat.le_of_ble_eq_true rfl) ?_
  intro p9 e9 s9 m9 bl9 me9 c9 A9 ls hAe E hRt hLk hK hl hw
  have Ex := E.1
  have Eb := E.2.1
  have huRX3 : ∀ w ∈ u_ws RX3 TX3 3, w ∈ wsX3_copyFrom := by decide +kernel
  have hf24 : (Cond.fieldLink RX3 24 "LoanSchedule$Plan" "count" "I").before _ s9 = true := E.2.2.2.2 _ (List.mem_of_getElem? (i := 1) rfl)
  have hf20 : (Cond.fieldLink RX3 20 "LoanSchedule$Plan" "book" "LLoanSchedule$Book;").before _ s9 = true := E.2.2.2.2 _ (List.mem_of_getElem? (i := 3) rfl)
  have hf11 : (Cond.fieldLink RX3 11 "LoanSchedule$Plan" "loans" "[LLoanSchedule$Loan;").before _ s9 = true := E.2.2.2.2 _ (List.mem_of_getElem? (i := 2) rfl)
  obtain ⟨⟨hn0, hn1⟩, ⟨hx0, hx1⟩, ⟨hk0, hk1⟩, hL⟩ := id hPI
  refine lv_aload_n Ex Eb dX3_copyFrom_0 rfl (lv_at hl 0 rfl) ?_
  refine lv_aload_n Ex Eb dX3_copyFrom_1 rfl (lv_at hl 1 rfl) ?_
  refine lo_get E hK hw huRX3 2 hf24 rfl 6 rfl rfl (by decide) (v := .int (iI (Pn Q))) rfl dX3_copyFrom_2 ?_
  refine lo_put E hK hw huRX3 tyX3 tyX3_ok nmX3 2 hf24 rfl 0 rfl rfl (by decide) rfl rfl rfl rfl (Nat.le_of_ble_eq_true rfl) (ws' := [oX3 (a 0) (a 1) (a 2) (Pn Q), arN X (a 1) 6 b, oX0 (a 2) (a 3) (a 4) (a 5) (Px P) (Pk P), arI X (a 3) 20 (Pa P), arI X (a 4) 20 (Pb P), arI X (a 5) 20 (Pd P), oX3 (f 0) (f 1) (f 2) (Pn Q), arN X (f 1) 6 g, oX0 (f 2) (f 3) (f 4) (f 5) (Px Q) (Pk Q), arI X (f 3) 20 (Pa Q), arI X (f 4) 20 (Pb Q), arI X (f 5) 20 (Pd Q)] ++ ((lsW b (PL P)) ++ ((lsW g (PL Q))))) rfl dX3_copyFrom_5 (fun H locs hw => ?_)
  refine lv_iconst (v := iI 0) Ex Eb dX3_copyFrom_8 rfl ?_
  refine lv_istore_n (lv' := [(2, .int (iI 0)), (0, .ref (a 0)), (1, .ref (f 0))]) Ex Eb dX3_copyFrom_9 rfl hl (by decide) rfl (fun ls hl => ?_)
  have lp10 : ∀ (n : Nat) (K : Nat → Nat → Int) (ix : Int), (Pn Q - ix).toNat < n → (0 ≤ ix ∧ ix ≤ Pn Q) → (K = mixL (PL Q) (PL P) ix.toNat) → ∀ (H : Heap) (locs : List Loc) (ls : Array Slot), lo_Wd X ([oX3 (a 0) (a 1) (a 2) (Pn Q), arN X (a 1) 6 b, oX0 (a 2) (a 3) (a 4) (a 5) (Px P) (Pk P), arI X (a 3) 20 (Pa P), arI X (a 4) 20 (Pb P), arI X (a 5) 20 (Pd P), oX3 (f 0) (f 1) (f 2) (Pn Q), arN X (f 1) 6 g, oX0 (f 2) (f 3) (f 4) (f 5) (Px Q) (Pk Q), arI X (f 3) 20 (Pa Q), arI X (f 4) 20 (Pb Q), arI X (f 5) 20 (Pd Q)] ++ ((lsW b K) ++ ((lsW g (PL Q))))) A9 s9.heap H locs → lv_has ls 3 [(0, .ref (a 0)), (1, .ref (f 0)), (2, .int (iI ix))] → W p9 l e9 ({ frames := 2, cells := 0, slots := 0, locals := 81 } : Room) s9 m9 ([.ref (a 0), .ref (f 0)] : List Value).toArray bl9 me9 c9 H locs 0 0 (MQ bl9 (lo_Qc X ([oX3 (a 0) (a 1) (a 2) (Pn P), arN X (a 1) 6 b, oX0 (a 2) (a 3) (a 4) (a 5) (Px P) (Pk P), arI X (a 3) 20 (Pa P), arI X (a 4) 20 (Pb P), arI X (a 5) 20 (Pd P), oX3 (f 0) (f 1) (f 2) (Pn Q), arN X (f 1) 6 g, oX0 (f 2) (f 3) (f 4) (f 5) (Px Q) (Pk Q), arI X (f 3) 20 (Pa Q), arI X (f 4) 20 (Pb Q), arI X (f 5) 20 (Pd Q)] ++ ((lsW b (PL P)) ++ ((lsW g (PL Q))))) s9.heap.size (fun v9 w9 => v9 = none ∧ w9 = [oX3 (a 0) (a 1) (a 2) (Pn (cpP P Q)), arN X (a 1) 6 b, oX0 (a 2) (a 3) (a 4) (a 5) (Px (cpP P Q)) (Pk (cpP P Q)), arI X (a 3) 20 (Pa (cpP P Q)), arI X (a 4) 20 (Pb (cpP P Q)), arI X (a 5) 20 (Pd (cpP P Q)), oX3 (f 0) (f 1) (f 2) (Pn Q), arN X (f 1) 6 g, oX0 (f 2) (f 3) (f 4) (f 5) (Px Q) (Pk Q), arI X (f 3) 20 (Pa Q), arI X (f 4) 20 (Pb Q), arI X (f 5) 20 (Pd Q)] ++ ((lsW b (PL (cpP P Q))) ++ ((lsW g (PL Q)))))) ([.ref (a 0), .ref (f 0)] : List Value).toArray s9 0 0 A9) (F0 m9 10 ls []) := by
    intro n
    induction n with
    | zero => intro K ix hn; exact absurd hn (Nat.not_lt_zero _)
    | succ n ih10 =>
      intro K ix hn10 iv10_0 iv10_1 H locs ls hw hl
      refine lv_iload_n Ex Eb dX3_copyFrom_10 rfl (lv_at hl 2 rfl) ?_
      refine lv_aload_n Ex Eb dX3_copyFrom_11 rfl (lv_at hl 0 rfl) ?_
      refine lo_get E hK hw huRX3 2 hf24 rfl 0 rfl rfl (by decide) (v := .int (iI (Pn Q))) rfl dX3_copyFrom_12 ?_
      refine lo_icmp_ge (tgt := 45) E dX3_copyFrom_15 (by decide) (by omega) (by omega) (fun c1 => ?_) (fun c1 => ?_)
      · skip
        have hK9 : K = mixL (PL Q) (PL P) (Pn Q).toNat := by rw [iv10_1, show ix = Pn Q by omega]
        refine lv_aload_n Ex Eb dX3_copyFrom_45 rfl (lv_at hl 0 rfl) ?_
        refine lo_get E hK hw huRX3 1 hf20 rfl 0 rfl rfl (by decide) (v := .ref (a 2)) rfl dX3_copyFrom_46 ?_
        refine lv_aload_n Ex Eb dX3_copyFrom_49 rfl (lv_at hl 1 rfl) ?_
        refine lo_get E hK hw huRX3 1 hf20 rfl 6 rfl rfl (by decide) (v := .ref (f 2)) rfl dX3_copyFrom_50 ?_
        refine lo_callV (q0 := 2) (rest := []) E hK hw (kX0_copyFrom l X (a 2) (a 3) (a 4) (a 5) (Px P) (Pk P) (Pa P) (Pb P) (Pd P) (f 2) (f 3) (f 4) (f 5) (Px Q) (Pk Q) (Pa Q) (Pb Q) (Pd Q) ) (cwV 1 E.2.2.2.2 gX3_copyFrom_X0_copyFrom rfl rfl rfl (by decide +kernel) ⟨Nat.le_of_ble_eq_true rfl, Nat.le_of_ble_eq_true rfl⟩) rfl rfl [2, 3, 4, 5, 8, 9, 10, 11] rfl (by decide) hl.1 rfl rfl (Nat.le_of_ble_eq_true rfl) dX3_copyFrom_53 ⟨Nat.le_of_ble_eq_true rfl, Nat.le_of_ble_eq_true rfl⟩ (fun v w1 H locs hq hw => ?_)
        obtain ⟨rfl, rfl⟩ := hq
        have hw : lo_Wd X ([oX3 (a 0) (a 1) (a 2) (Pn Q), arN X (a 1) 6 b, oX0 (a 2) (a 3) (a 4) (a 5) (Px Q) (Pk Q), arI X (a 3) 20 (Pa Q), arI X (a 4) 20 (Pb Q), arI X (a 5) 20 (Pd Q), oX3 (f 0) (f 1) (f 2) (Pn Q), arN X (f 1) 6 g, oX0 (f 2) (f 3) (f 4) (f 5) (Px Q) (Pk Q), arI X (f 3) 20 (Pa Q), arI X (f 4) 20 (Pb Q), arI X (f 5) 20 (Pd Q)] ++ ((lsW b K) ++ ((lsW g (PL Q))))) A9 s9.heap H locs := hw
        refine W.eq (g2 := F0 m9 56 ls []) rfl ?_
        exact lo_vret E hRt hLk hK hAe hw dX3_copyFrom_56 rfl ⟨rfl, by rw [hK9]; rfl⟩
      · skip
        refine lv_iload_n Ex Eb dX3_copyFrom_18 rfl (lv_at hl 2 rfl) ?_
        refine lv_bipush (v := iI 6) Ex Eb dX3_copyFrom_19 rfl ?_
        refine lo_icmp_ge (tgt := 45) E dX3_copyFrom_21 (by decide) (by omega) (by omega) (fun c2 => ?_) (fun c2 => ?_)
        · skip
          have hK9 : K = mixL (PL Q) (PL P) (Pn Q).toNat := by rw [iv10_1, show ix = Pn Q by omega]
          refine lv_aload_n Ex Eb dX3_copyFrom_45 rfl (lv_at hl 0 rfl) ?_
          refine lo_get E hK hw huRX3 1 hf20 rfl 0 rfl rfl (by decide) (v := .ref (a 2)) rfl dX3_copyFrom_46 ?_
          refine lv_aload_n Ex Eb dX3_copyFrom_49 rfl (lv_at hl 1 rfl) ?_
          refine lo_get E hK hw huRX3 1 hf20 rfl 6 rfl rfl (by decide) (v := .ref (f 2)) rfl dX3_copyFrom_50 ?_
          refine lo_callV (q0 := 2) (rest := []) E hK hw (kX0_copyFrom l X (a 2) (a 3) (a 4) (a 5) (Px P) (Pk P) (Pa P) (Pb P) (Pd P) (f 2) (f 3) (f 4) (f 5) (Px Q) (Pk Q) (Pa Q) (Pb Q) (Pd Q) ) (cwV 1 E.2.2.2.2 gX3_copyFrom_X0_copyFrom rfl rfl rfl (by decide +kernel) ⟨Nat.le_of_ble_eq_true rfl, Nat.le_of_ble_eq_true rfl⟩) rfl rfl [2, 3, 4, 5, 8, 9, 10, 11] rfl (by decide) hl.1 rfl rfl (Nat.le_of_ble_eq_true rfl) dX3_copyFrom_53 ⟨Nat.le_of_ble_eq_true rfl, Nat.le_of_ble_eq_true rfl⟩ (fun v w1 H locs hq hw => ?_)
          obtain ⟨rfl, rfl⟩ := hq
          have hw : lo_Wd X ([oX3 (a 0) (a 1) (a 2) (Pn Q), arN X (a 1) 6 b, oX0 (a 2) (a 3) (a 4) (a 5) (Px Q) (Pk Q), arI X (a 3) 20 (Pa Q), arI X (a 4) 20 (Pb Q), arI X (a 5) 20 (Pd Q), oX3 (f 0) (f 1) (f 2) (Pn Q), arN X (f 1) 6 g, oX0 (f 2) (f 3) (f 4) (f 5) (Px Q) (Pk Q), arI X (f 3) 20 (Pa Q), arI X (f 4) 20 (Pb Q), arI X (f 5) 20 (Pd Q)] ++ ((lsW b K) ++ ((lsW g (PL Q))))) A9 s9.heap H locs := hw
          refine W.eq (g2 := F0 m9 56 ls []) rfl ?_
          exact lo_vret E hRt hLk hK hAe hw dX3_copyFrom_56 rfl ⟨rfl, by rw [hK9]; rfl⟩
        · skip
          refine lv_aload_n Ex Eb dX3_copyFrom_24 rfl (lv_at hl 0 rfl) ?_
          refine lo_get E hK hw huRX3 0 hf11 rfl 0 rfl rfl (by decide) (v := .ref (a 1)) rfl dX3_copyFrom_25 ?_
          refine lv_iload_n Ex Eb dX3_copyFrom_28 rfl (lv_at hl 2 rfl) ?_
          refine lo_aldN E hK hw 1 rfl (by omega) dX3_copyFrom_29 ?_
          refine lv_aload_n Ex Eb dX3_copyFrom_30 rfl (lv_at hl 1 rfl) ?_
          refine lo_get E hK hw huRX3 0 hf11 rfl 6 rfl rfl (by decide) (v := .ref (f 1)) rfl dX3_copyFrom_31 ?_
          refine lv_iload_n Ex Eb dX3_copyFrom_34 rfl (lv_at hl 2 rfl) ?_
          refine lo_aldN E hK hw 7 rfl (by omega) dX3_copyFrom_35 ?_
          refine lo_callV (q0 := (12 + ix.toNat)) (rest := []) E hK hw (kX2_copyFrom l X (b ix.toNat) (g ix.toNat) (K ix.toNat) (PL Q ix.toNat) ) (cwV 1 E.2.2.2.2 gX3_copyFrom_X2_copyFrom rfl rfl rfl (by decide +kernel) ⟨Nat.le_of_ble_eq_true rfl, Nat.le_of_ble_eq_true rfl⟩) (lsW_at (k := 12) rfl (by omega)) rfl [12 + ix.toNat, 18 + ix.toNat] (lo_ps_cons (lsW_at (k := 12) rfl (by omega)) (lo_ps_cons (lsW_at2 (k := 18) rfl (by omega)) lo_ps_nil)) (by simp [va_nd]; try omega) hl.1 rfl rfl (Nat.le_of_ble_eq_true rfl) dX3_copyFrom_36 ⟨Nat.le_of_ble_eq_true rfl, Nat.le_of_ble_eq_true rfl⟩ (fun v w1 H locs hq hw => ?_)
          obtain ⟨rfl, rfl⟩ := hq
          have hw := lo_cast (lsW_cp (k := 12) (k2 := 18) rfl rfl (show ix.toNat < 6 by omega)) hw
          have hw : lo_Wd X ([oX3 (a 0) (a 1) (a 2) (Pn Q), arN X (a 1) 6 b, oX0 (a 2) (a 3) (a 4) (a 5) (Px P) (Pk P), arI X (a 3) 20 (Pa P), arI X (a 4) 20 (Pb P), arI X (a 5) 20 (Pd P), oX3 (f 0) (f 1) (f 2) (Pn Q), arN X (f 1) 6 g, oX0 (f 2) (f 3) (f 4) (f 5) (Px Q) (Pk Q), arI X (f 3) 20 (Pa Q), arI X (f 4) 20 (Pb Q), arI X (f 5) 20 (Pd Q)] ++ ((lsW b (uF K ix.toNat (PL Q ix.toNat))) ++ ((lsW g (PL Q))))) A9 s9.heap H locs := hw
          refine W.eq (g2 := F0 m9 39 ls []) rfl ?_
          refine lo_iinc (lv' := [(2, .int (iI (ix + 1))), (0, .ref (a 0)), (1, .ref (f 0))]) E dX3_copyFrom_39 hl (k := 2) rfl (by decide) rfl (fun ls hl => ?_)
          refine lv_goto (tgt := 10) Ex Eb dX3_copyFrom_42 (by decide) ?_
          exact ih10 (uF K ix.toNat (PL Q ix.toNat)) (ix + 1) (by omega) (by omega) (by rw [show (ix + 1).toNat = ix.toNat + 1 by omega, ← mixL_s, ← iv10_1]) _ _ _ hw (lv_sub hl [1, 2, 0] rfl)
  exact lp10 _ (PL P) 0 (Nat.lt_succ_self _) (by omega) ((mixL_0 _ _).symm) _ _ _ hw (lv_sub hl [1, 2, 0] rfl)
set_option maxHeartbeats 4000000 in
set_option maxRecDepth 100000 in
theorem kX3_sumOfDues (l : Launch) (X : KX) (a b : Nat → Nat) (P : PT) (hPI : PI P) : CM l X yX3_sumOfDues wsX3_sumOfDues ({ frames := 2, cells := 0, slots := 0, locals := 41 }) [.ref (a 0)] ([oX3 (a 0) (a 1) (a 2) (Pn P), arN X (a 1) 6 b, oX0 (a 2) (a 3) (a 4) (a 5) (Px P) (Pk P), arI X (a 3) 20 (Pa P), arI X (a 4) 20 (Pb P), arI X (a 5) 20 (Pd P)] ++ ((lsW b (PL P)))) (fun v9 w9 => v9 = some (.int (iI (dueS P))) ∧ w9 = [oX3 (a 0) (a 1) (a 2) (Pn P), arN X (a 1) 6 b, oX0 (a 2) (a 3) (a 4) (a 5) (Px P) (Pk P), arI X (a 3) 20 (Pa P), arI X (a 4) 20 (Pb P), arI X (a 5) 20 (Pd P)] ++ ((lsW b (PL P)))) 0 0 := by
  refine lo_enter (cc := cX3_sumOfDues) (maxL := 3) (ret := (some .int)) (lv := [(0, .ref (a 0))]) (by decide) rfl rfl (Nat.le_of_ble_eq_true rfl) ?_
  intro p9 e9 s9 m9 bl9 me9 c9 A9 ls hAe E hRt hLk hK hl hw
  have Ex := E.1
  have Eb := E.2.1
  have huRX3 : ∀ w ∈ u_ws RX3 TX3 3, w ∈ wsX3_sumOfDues := by decide +kernel
  have hf24 : (Cond.fieldLink RX3 24 "LoanSchedule$Plan" "count" "I").before _ s9 = true := E.2.2.2.2 _ (List.mem_of_getElem? (i := 1) rfl)
  have hf11 : (Cond.fieldLink RX3 11 "LoanSchedule$Plan" "loans" "[LLoanSchedule$Loan;").before _ s9 = true := E.2.2.2.2 _ (List.mem_of_getElem? (i := 2) rfl)
  obtain ⟨⟨hn0, hn1⟩, ⟨hx0, hx1⟩, ⟨hk0, hk1⟩, hL⟩ := id hPI
  refine lv_iconst (v := iI 0) Ex Eb dX3_sumOfDues_0 rfl ?_
  refine lv_istore_n (lv' := [(1, .int (iI 0)), (0, .ref (a 0))]) Ex Eb dX3_sumOfDues_1 rfl hl (by decide) rfl (fun ls hl => ?_)
  refine lv_iconst (v := iI 0) Ex Eb dX3_sumOfDues_2 rfl ?_
  refine lv_istore_n (lv' := [(2, .int (iI 0)), (1, .int (iI 0)), (0, .ref (a 0))]) Ex Eb dX3_sumOfDues_3 rfl hl (by decide) rfl (fun ls hl => ?_)
  have lp4 : ∀ (n : Nat) (sm ix : Int), (Pn P - ix).toNat < n → (0 ≤ ix ∧ ix ≤ Pn P) → (sm = sumF (fun i => dueL (PL P i)) ix.toNat) → ∀ (H : Heap) (locs : List Loc) (ls : Array Slot), lo_Wd X ([oX3 (a 0) (a 1) (a 2) (Pn P), arN X (a 1) 6 b, oX0 (a 2) (a 3) (a 4) (a 5) (Px P) (Pk P), arI X (a 3) 20 (Pa P), arI X (a 4) 20 (Pb P), arI X (a 5) 20 (Pd P)] ++ ((lsW b (PL P)))) A9 s9.heap H locs → lv_has ls 3 [(0, .ref (a 0)), (1, .int (iI sm)), (2, .int (iI ix))] → W p9 l e9 ({ frames := 2, cells := 0, slots := 0, locals := 41 } : Room) s9 m9 ([.ref (a 0)] : List Value).toArray bl9 me9 c9 H locs 0 0 (MQ bl9 (lo_Qc X ([oX3 (a 0) (a 1) (a 2) (Pn P), arN X (a 1) 6 b, oX0 (a 2) (a 3) (a 4) (a 5) (Px P) (Pk P), arI X (a 3) 20 (Pa P), arI X (a 4) 20 (Pb P), arI X (a 5) 20 (Pd P)] ++ ((lsW b (PL P)))) s9.heap.size (fun v9 w9 => v9 = some (.int (iI (dueS P))) ∧ w9 = [oX3 (a 0) (a 1) (a 2) (Pn P), arN X (a 1) 6 b, oX0 (a 2) (a 3) (a 4) (a 5) (Px P) (Pk P), arI X (a 3) 20 (Pa P), arI X (a 4) 20 (Pb P), arI X (a 5) 20 (Pd P)] ++ ((lsW b (PL P))))) ([.ref (a 0)] : List Value).toArray s9 0 0 A9) (F0 m9 4 ls []) := by
    intro n
    induction n with
    | zero => intro sm ix hn; exact absurd hn (Nat.not_lt_zero _)
    | succ n ih4 =>
      intro sm ix hn4 iv4_0 iv4_1 H locs ls hw hl
      refine lv_iload_n Ex Eb dX3_sumOfDues_4 rfl (lv_at hl 2 rfl) ?_
      refine lv_aload_n Ex Eb dX3_sumOfDues_5 rfl (lv_at hl 0 rfl) ?_
      refine lo_get E hK hw huRX3 2 hf24 rfl 0 rfl rfl (by decide) (v := .int (iI (Pn P))) rfl dX3_sumOfDues_6 ?_
      refine lo_icmp_ge (tgt := 36) E dX3_sumOfDues_9 (by decide) (by omega) (by omega) (fun c1 => ?_) (fun c1 => ?_)
      · skip
        refine lv_iload_n Ex Eb dX3_sumOfDues_36 rfl (lv_at hl 1 rfl) ?_
        exact lo_iret E hRt hLk hK hAe hw dX3_sumOfDues_37 rfl ⟨by unfold dueS; rw [iv4_1, show ix = Pn P by omega], rfl⟩
      · skip
        refine lv_iload_n Ex Eb dX3_sumOfDues_12 rfl (lv_at hl 2 rfl) ?_
        refine lv_bipush (v := iI 6) Ex Eb dX3_sumOfDues_13 rfl ?_
        refine lo_icmp_ge (tgt := 36) E dX3_sumOfDues_15 (by decide) (by omega) (by omega) (fun c2 => ?_) (fun c2 => ?_)
        · skip
          refine lv_iload_n Ex Eb dX3_sumOfDues_36 rfl (lv_at hl 1 rfl) ?_
          exact lo_iret E hRt hLk hK hAe hw dX3_sumOfDues_37 rfl ⟨by unfold dueS; rw [iv4_1, show ix = Pn P by omega], rfl⟩
        · skip
          refine lv_iload_n Ex Eb dX3_sumOfDues_18 rfl (lv_at hl 1 rfl) ?_
          refine lv_aload_n Ex Eb dX3_sumOfDues_19 rfl (lv_at hl 0 rfl) ?_
          refine lo_get E hK hw huRX3 0 hf11 rfl 0 rfl rfl (by decide) (v := .ref (a 1)) rfl dX3_sumOfDues_20 ?_
          have hLi := hL (ix).toNat (by omega)
          obtain ⟨⟨hb0, hb1⟩, ⟨hr0, hr1⟩, ⟨hc0, hc1⟩, ⟨hm0, hm1⟩, ⟨hi0, hi1⟩, ⟨hs0, hs1⟩, hop, hcl⟩ := id hLi
          refine lv_iload_n Ex Eb dX3_sumOfDues_23 rfl (lv_at hl 2 rfl) ?_
          refine lo_aldN E hK hw 1 rfl (by omega) dX3_sumOfDues_24 ?_
          refine lo_callV (q0 := (6 + ix.toNat)) (rest := [.int (iI sm)]) E hK hw (kX2_nextDue l X (b ix.toNat) (PL P ix.toNat) (by omega) (by omega) (by omega) (by omega) (by omega) (by omega) (by omega) (by omega)) (cwV 0 E.2.2.2.2 gX3_sumOfDues_X2_nextDue rfl rfl rfl (by decide +kernel) ⟨Nat.le_of_ble_eq_true rfl, Nat.le_of_ble_eq_true rfl⟩) (lsW_atE (k := 6) rfl (by omega)) rfl [6 + ix.toNat] (lo_ps_cons (lsW_atE (k := 6) rfl (by omega)) lo_ps_nil) (by simp [va_nd]) hl.1 rfl rfl (Nat.le_of_ble_eq_true rfl) dX3_sumOfDues_25 ⟨Nat.le_of_ble_eq_true rfl, Nat.le_of_ble_eq_true rfl⟩ (fun v w1 H locs hq hw => ?_)
          obtain ⟨rfl, rfl⟩ := hq
          have hw := lo_cast (lsW_cE0 (k := 6) rfl (by omega)) hw
          have hw : lo_Wd X ([oX3 (a 0) (a 1) (a 2) (Pn P), arN X (a 1) 6 b, oX0 (a 2) (a 3) (a 4) (a 5) (Px P) (Pk P), arI X (a 3) 20 (Pa P), arI X (a 4) 20 (Pb P), arI X (a 5) 20 (Pd P)] ++ ((lsW b (PL P)))) A9 s9.heap H locs := hw
          refine W.eq (g2 := F0 m9 28 ls [.int (iI (dueL (PL P ix.toNat))), .int (iI sm)]) rfl ?_
          refine lo_iadd E dX3_sumOfDues_28 ?_
          refine lv_istore_n (lv' := [(1, .int (iI (sm + dueL (PL P ix.toNat)))), (0, .ref (a 0)), (2, .int (iI ix))]) Ex Eb dX3_sumOfDues_29 rfl hl (by decide) rfl (fun ls hl => ?_)
          refine lo_iinc (lv' := [(2, .int (iI (ix + 1))), (1, .int (iI (sm + dueL (PL P ix.toNat)))), (0, .ref (a 0))]) E dX3_sumOfDues_30 hl (k := 2) rfl (by decide) rfl (fun ls hl => ?_)
          refine lv_goto (tgt := 4) Ex Eb dX3_sumOfDues_33 (by decide) ?_
          exact ih4 (sm + dueL (PL P ix.toNat)) (ix + 1) (by omega) (by omega) (by rw [sumF_s (by omega), ← iv4_1]) _ _ _ hw (lv_sub hl [2, 1, 0] rfl)
  exact lp4 _ 0 0 (Nat.lt_succ_self _) (by omega) (rfl) _ _ _ hw (lv_sub hl [2, 1, 0] rfl)
set_option maxHeartbeats 4000000 in
set_option maxRecDepth 100000 in
theorem kX3_sumOfBalances (l : Launch) (X : KX) (a b : Nat → Nat) (P : PT) (hPI : PI P) : CM l X yX3_sumOfBalances wsX3_sumOfBalances ({ frames := 0, cells := 0, slots := 0, locals := 0 }) [.ref (a 0)] ([oX3 (a 0) (a 1) (a 2) (Pn P), arN X (a 1) 6 b, oX0 (a 2) (a 3) (a 4) (a 5) (Px P) (Pk P), arI X (a 3) 20 (Pa P), arI X (a 4) 20 (Pb P), arI X (a 5) 20 (Pd P)] ++ ((lsW b (PL P)))) (fun v9 w9 => v9 = some (.int (iI (sumF (fun i => PL P i 1) (Pn P).toNat))) ∧ w9 = [oX3 (a 0) (a 1) (a 2) (Pn P), arN X (a 1) 6 b, oX0 (a 2) (a 3) (a 4) (a 5) (Px P) (Pk P), arI X (a 3) 20 (Pa P), arI X (a 4) 20 (Pb P), arI X (a 5) 20 (Pd P)] ++ ((lsW b (PL P)))) 0 0 := by
  refine lo_enter (cc := cX3_sumOfBalances) (maxL := 3) (ret := (some .int)) (lv := [(0, .ref (a 0))]) (by decide) rfl rfl (Nat.le_of_ble_eq_true rfl) ?_
  intro p9 e9 s9 m9 bl9 me9 c9 A9 ls hAe E hRt hLk hK hl hw
  have Ex := E.1
  have Eb := E.2.1
  have huRX3 : ∀ w ∈ u_ws RX3 TX3 3, w ∈ wsX3_sumOfBalances := by decide +kernel
  have hf24 : (Cond.fieldLink RX3 24 "LoanSchedule$Plan" "count" "I").before _ s9 = true := E.2.2.2.2 _ (List.mem_of_getElem? (i := 1) rfl)
  have hf11 : (Cond.fieldLink RX3 11 "LoanSchedule$Plan" "loans" "[LLoanSchedule$Loan;").before _ s9 = true := E.2.2.2.2 _ (List.mem_of_getElem? (i := 2) rfl)
  have huRX2 : ∀ w ∈ u_ws RX2 TX2 10, w ∈ wsX3_sumOfBalances := by decide +kernel
  have hf78 : (Cond.fieldLink RX3 78 "LoanSchedule$Loan" "balance" "I").before _ s9 = true := E.2.2.2.2 _ (List.mem_of_getElem? (i := 3) rfl)
  obtain ⟨⟨hn0, hn1⟩, ⟨hx0, hx1⟩, ⟨hk0, hk1⟩, hL⟩ := id hPI
  refine lv_iconst (v := iI 0) Ex Eb dX3_sumOfBalances_0 rfl ?_
  refine lv_istore_n (lv' := [(1, .int (iI 0)), (0, .ref (a 0))]) Ex Eb dX3_sumOfBalances_1 rfl hl (by decide) rfl (fun ls hl => ?_)
  refine lv_iconst (v := iI 0) Ex Eb dX3_sumOfBalances_2 rfl ?_
  refine lv_istore_n (lv' := [(2, .int (iI 0)), (1, .int (iI 0)), (0, .ref (a 0))]) Ex Eb dX3_sumOfBalances_3 rfl hl (by decide) rfl (fun ls hl => ?_)
  have lp4 : ∀ (n : Nat) (sm ix : Int), (Pn P - ix).toNat < n → (0 ≤ ix ∧ ix ≤ Pn P) → (sm = sumF (fun i => PL P i 1) ix.toNat) → ∀ (H : Heap) (locs : List Loc) (ls : Array Slot), lo_Wd X ([oX3 (a 0) (a 1) (a 2) (Pn P), arN X (a 1) 6 b, oX0 (a 2) (a 3) (a 4) (a 5) (Px P) (Pk P), arI X (a 3) 20 (Pa P), arI X (a 4) 20 (Pb P), arI X (a 5) 20 (Pd P)] ++ ((lsW b (PL P)))) A9 s9.heap H locs → lv_has ls 3 [(0, .ref (a 0)), (1, .int (iI sm)), (2, .int (iI ix))] → W p9 l e9 ({ frames := 0, cells := 0, slots := 0, locals := 0 } : Room) s9 m9 ([.ref (a 0)] : List Value).toArray bl9 me9 c9 H locs 0 0 (MQ bl9 (lo_Qc X ([oX3 (a 0) (a 1) (a 2) (Pn P), arN X (a 1) 6 b, oX0 (a 2) (a 3) (a 4) (a 5) (Px P) (Pk P), arI X (a 3) 20 (Pa P), arI X (a 4) 20 (Pb P), arI X (a 5) 20 (Pd P)] ++ ((lsW b (PL P)))) s9.heap.size (fun v9 w9 => v9 = some (.int (iI (sumF (fun i => PL P i 1) (Pn P).toNat))) ∧ w9 = [oX3 (a 0) (a 1) (a 2) (Pn P), arN X (a 1) 6 b, oX0 (a 2) (a 3) (a 4) (a 5) (Px P) (Pk P), arI X (a 3) 20 (Pa P), arI X (a 4) 20 (Pb P), arI X (a 5) 20 (Pd P)] ++ ((lsW b (PL P))))) ([.ref (a 0)] : List Value).toArray s9 0 0 A9) (F0 m9 4 ls []) := by
    intro n
    induction n with
    | zero => intro sm ix hn; exact absurd hn (Nat.not_lt_zero _)
    | succ n ih4 =>
      intro sm ix hn4 iv4_0 iv4_1 H locs ls hw hl
      refine lv_iload_n Ex Eb dX3_sumOfBalances_4 rfl (lv_at hl 2 rfl) ?_
      refine lv_aload_n Ex Eb dX3_sumOfBalances_5 rfl (lv_at hl 0 rfl) ?_
      refine lo_get E hK hw huRX3 2 hf24 rfl 0 rfl rfl (by decide) (v := .int (iI (Pn P))) rfl dX3_sumOfBalances_6 ?_
      refine lo_icmp_ge (tgt := 36) E dX3_sumOfBalances_9 (by decide) (by omega) (by omega) (fun c1 => ?_) (fun c1 => ?_)
      · skip
        refine lv_iload_n Ex Eb dX3_sumOfBalances_36 rfl (lv_at hl 1 rfl) ?_
        exact lo_iret E hRt hLk hK hAe hw dX3_sumOfBalances_37 rfl ⟨by rw [iv4_1, show ix = Pn P by omega], rfl⟩
      · skip
        refine lv_iload_n Ex Eb dX3_sumOfBalances_12 rfl (lv_at hl 2 rfl) ?_
        refine lv_bipush (v := iI 6) Ex Eb dX3_sumOfBalances_13 rfl ?_
        refine lo_icmp_ge (tgt := 36) E dX3_sumOfBalances_15 (by decide) (by omega) (by omega) (fun c2 => ?_) (fun c2 => ?_)
        · skip
          refine lv_iload_n Ex Eb dX3_sumOfBalances_36 rfl (lv_at hl 1 rfl) ?_
          exact lo_iret E hRt hLk hK hAe hw dX3_sumOfBalances_37 rfl ⟨by rw [iv4_1, show ix = Pn P by omega], rfl⟩
        · skip
          refine lv_iload_n Ex Eb dX3_sumOfBalances_18 rfl (lv_at hl 1 rfl) ?_
          refine lv_aload_n Ex Eb dX3_sumOfBalances_19 rfl (lv_at hl 0 rfl) ?_
          refine lo_get E hK hw huRX3 0 hf11 rfl 0 rfl rfl (by decide) (v := .ref (a 1)) rfl dX3_sumOfBalances_20 ?_
          have hLi := hL (ix).toNat (by omega)
          obtain ⟨⟨hb0, hb1⟩, ⟨hr0, hr1⟩, ⟨hc0, hc1⟩, ⟨hm0, hm1⟩, ⟨hi0, hi1⟩, ⟨hs0, hs1⟩, hop, hcl⟩ := id hLi
          refine lv_iload_n Ex Eb dX3_sumOfBalances_23 rfl (lv_at hl 2 rfl) ?_
          refine lo_aldN E hK hw 1 rfl (by omega) dX3_sumOfBalances_24 ?_
          refine lo_get E hK hw huRX2 1 hf78 rfl (6 + ix.toNat) (lsW_atE (k := 6) rfl (by omega)) rfl (by decide) (v := .int (iI (PL P ix.toNat 1))) rfl dX3_sumOfBalances_25 ?_
          refine lo_iadd E dX3_sumOfBalances_28 ?_
          refine lv_istore_n (lv' := [(1, .int (iI (sm + (PL P ix.toNat 1)))), (0, .ref (a 0)), (2, .int (iI ix))]) Ex Eb dX3_sumOfBalances_29 rfl hl (by decide) rfl (fun ls hl => ?_)
          refine lo_iinc (lv' := [(2, .int (iI (ix + 1))), (1, .int (iI (sm + (PL P ix.toNat 1)))), (0, .ref (a 0))]) E dX3_sumOfBalances_30 hl (k := 2) rfl (by decide) rfl (fun ls hl => ?_)
          refine lv_goto (tgt := 4) Ex Eb dX3_sumOfBalances_33 (by decide) ?_
          exact ih4 (sm + (PL P ix.toNat 1)) (ix + 1) (by omega) (by omega) (by rw [sumF_s (by omega), ← iv4_1]) _ _ _ hw (lv_sub hl [2, 1, 0] rfl)
  exact lp4 _ 0 0 (Nat.lt_succ_self _) (by omega) (rfl) _ _ _ hw (lv_sub hl [2, 1, 0] rfl)
set_option maxHeartbeats 4000000 in
set_option maxRecDepth 100000 in
theorem kX3_countRunning (l : Launch) (X : KX) (a b : Nat → Nat) (P : PT) (hPI : PI P) : CM l X yX3_countRunning wsX3_countRunning ({ frames := 1, cells := 0, slots := 0, locals := 20 }) [.ref (a 0)] ([oX3 (a 0) (a 1) (a 2) (Pn P), arN X (a 1) 6 b, oX0 (a 2) (a 3) (a 4) (a 5) (Px P) (Pk P), arI X (a 3) 20 (Pa P), arI X (a 4) 20 (Pb P), arI X (a 5) 20 (Pd P)] ++ ((lsW b (PL P)))) (fun v9 w9 => v9 = some (.int (iI (cnt (PL P) (Pn P).toNat))) ∧ w9 = [oX3 (a 0) (a 1) (a 2) (Pn P), arN X (a 1) 6 b, oX0 (a 2) (a 3) (a 4) (a 5) (Px P) (Pk P), arI X (a 3) 20 (Pa P), arI X (a 4) 20 (Pb P), arI X (a 5) 20 (Pd P)] ++ ((lsW b (PL P)))) 0 0 := by
  refine lo_enter (cc := cX3_countRunning) (maxL := 3) (ret := (some .int)) (lv := [(0, .ref (a 0))]) (by decide) rfl rfl (Nat.le_of_ble_eq_true rfl) ?_
  intro p9 e9 s9 m9 bl9 me9 c9 A9 ls hAe E hRt hLk hK hl hw
  have Ex := E.1
  have Eb := E.2.1
  have huRX3 : ∀ w ∈ u_ws RX3 TX3 3, w ∈ wsX3_countRunning := by decide +kernel
  have hf24 : (Cond.fieldLink RX3 24 "LoanSchedule$Plan" "count" "I").before _ s9 = true := E.2.2.2.2 _ (List.mem_of_getElem? (i := 1) rfl)
  have hf11 : (Cond.fieldLink RX3 11 "LoanSchedule$Plan" "loans" "[LLoanSchedule$Loan;").before _ s9 = true := E.2.2.2.2 _ (List.mem_of_getElem? (i := 2) rfl)
  obtain ⟨⟨hn0, hn1⟩, ⟨hx0, hx1⟩, ⟨hk0, hk1⟩, hL⟩ := id hPI
  refine lv_iconst (v := iI 0) Ex Eb dX3_countRunning_0 rfl ?_
  refine lv_istore_n (lv' := [(1, .int (iI 0)), (0, .ref (a 0))]) Ex Eb dX3_countRunning_1 rfl hl (by decide) rfl (fun ls hl => ?_)
  refine lv_iconst (v := iI 0) Ex Eb dX3_countRunning_2 rfl ?_
  refine lv_istore_n (lv' := [(2, .int (iI 0)), (1, .int (iI 0)), (0, .ref (a 0))]) Ex Eb dX3_countRunning_3 rfl hl (by decide) rfl (fun ls hl => ?_)
  have lp4 : ∀ (n : Nat) (sm ix : Int), (Pn P - ix).toNat < n → (0 ≤ ix ∧ ix ≤ Pn P) → (sm = cnt (PL P) ix.toNat) → ∀ (H : Heap) (locs : List Loc) (ls : Array Slot), lo_Wd X ([oX3 (a 0) (a 1) (a 2) (Pn P), arN X (a 1) 6 b, oX0 (a 2) (a 3) (a 4) (a 5) (Px P) (Pk P), arI X (a 3) 20 (Pa P), arI X (a 4) 20 (Pb P), arI X (a 5) 20 (Pd P)] ++ ((lsW b (PL P)))) A9 s9.heap H locs → lv_has ls 3 [(0, .ref (a 0)), (1, .int (iI sm)), (2, .int (iI ix))] → W p9 l e9 ({ frames := 1, cells := 0, slots := 0, locals := 20 } : Room) s9 m9 ([.ref (a 0)] : List Value).toArray bl9 me9 c9 H locs 0 0 (MQ bl9 (lo_Qc X ([oX3 (a 0) (a 1) (a 2) (Pn P), arN X (a 1) 6 b, oX0 (a 2) (a 3) (a 4) (a 5) (Px P) (Pk P), arI X (a 3) 20 (Pa P), arI X (a 4) 20 (Pb P), arI X (a 5) 20 (Pd P)] ++ ((lsW b (PL P)))) s9.heap.size (fun v9 w9 => v9 = some (.int (iI (cnt (PL P) (Pn P).toNat))) ∧ w9 = [oX3 (a 0) (a 1) (a 2) (Pn P), arN X (a 1) 6 b, oX0 (a 2) (a 3) (a 4) (a 5) (Px P) (Pk P), arI X (a 3) 20 (Pa P), arI X (a 4) 20 (Pb P), arI X (a 5) 20 (Pd P)] ++ ((lsW b (PL P))))) ([.ref (a 0)] : List Value).toArray s9 0 0 A9) (F0 m9 4 ls []) := by
    intro n
    induction n with
    | zero => intro sm ix hn; exact absurd hn (Nat.not_lt_zero _)
    | succ n ih4 =>
      intro sm ix hn4 iv4_0 iv4_1 H locs ls hw hl
      refine lv_iload_n Ex Eb dX3_countRunning_4 rfl (lv_at hl 2 rfl) ?_
      refine lv_aload_n Ex Eb dX3_countRunning_5 rfl (lv_at hl 0 rfl) ?_
      refine lo_get E hK hw huRX3 2 hf24 rfl 0 rfl rfl (by decide) (v := .int (iI (Pn P))) rfl dX3_countRunning_6 ?_
      refine lo_icmp_ge (tgt := 39) E dX3_countRunning_9 (by decide) (by omega) (by omega) (fun c1 => ?_) (fun c1 => ?_)
      · skip
        refine lv_iload_n Ex Eb dX3_countRunning_39 rfl (lv_at hl 1 rfl) ?_
        exact lo_iret E hRt hLk hK hAe hw dX3_countRunning_40 rfl ⟨by rw [iv4_1, show ix = Pn P by omega], rfl⟩
      · skip
        refine lv_iload_n Ex Eb dX3_countRunning_12 rfl (lv_at hl 2 rfl) ?_
        refine lv_bipush (v := iI 6) Ex Eb dX3_countRunning_13 rfl ?_
        refine lo_icmp_ge (tgt := 39) E dX3_countRunning_15 (by decide) (by omega) (by omega) (fun c2 => ?_) (fun c2 => ?_)
        · skip
          refine lv_iload_n Ex Eb dX3_countRunning_39 rfl (lv_at hl 1 rfl) ?_
          exact lo_iret E hRt hLk hK hAe hw dX3_countRunning_40 rfl ⟨by rw [iv4_1, show ix = Pn P by omega], rfl⟩
        · skip
          refine lv_aload_n Ex Eb dX3_countRunning_18 rfl (lv_at hl 0 rfl) ?_
          refine lo_get E hK hw huRX3 0 hf11 rfl 0 rfl rfl (by decide) (v := .ref (a 1)) rfl dX3_countRunning_19 ?_
          have hLi := hL (ix).toNat (by omega)
          obtain ⟨⟨hb0, hb1⟩, ⟨hr0, hr1⟩, ⟨hc0, hc1⟩, ⟨hm0, hm1⟩, ⟨hi0, hi1⟩, ⟨hs0, hs1⟩, hop, hcl⟩ := id hLi
          refine lv_iload_n Ex Eb dX3_countRunning_22 rfl (lv_at hl 2 rfl) ?_
          refine lo_aldN E hK hw 1 rfl (by omega) dX3_countRunning_23 ?_
          refine lo_callV (q0 := (6 + ix.toNat)) (rest := []) E hK hw (kX2_isRunning l X (b ix.toNat) (PL P ix.toNat) (by omega)) (cwV 0 E.2.2.2.2 gX3_countRunning_X2_isRunning rfl rfl rfl (by decide +kernel) ⟨Nat.le_of_ble_eq_true rfl, Nat.le_of_ble_eq_true rfl⟩) (lsW_atE (k := 6) rfl (by omega)) rfl [6 + ix.toNat] (lo_ps_cons (lsW_atE (k := 6) rfl (by omega)) lo_ps_nil) (by simp [va_nd]) hl.1 rfl rfl (Nat.le_of_ble_eq_true rfl) dX3_countRunning_24 ⟨Nat.le_of_ble_eq_true rfl, Nat.le_of_ble_eq_true rfl⟩ (fun v w1 H locs hq hw => ?_)
          obtain ⟨r3, q24_0, rfl, rfl⟩ := hq
          have hw := lo_cast (lsW_cE0 (k := 6) rfl (by omega)) hw
          have hw : lo_Wd X ([oX3 (a 0) (a 1) (a 2) (Pn P), arN X (a 1) 6 b, oX0 (a 2) (a 3) (a 4) (a 5) (Px P) (Pk P), arI X (a 3) 20 (Pa P), arI X (a 4) 20 (Pb P), arI X (a 5) 20 (Pd P)] ++ ((lsW b (PL P)))) A9 s9.heap H locs := hw
          refine W.eq (g2 := F0 m9 27 ls [.int (iI r3)]) rfl ?_
          refine lo_if_eq (tgt := 33) E dX3_countRunning_27 (by decide) (by omega) (fun c4 => ?_) (fun c4 => ?_)
          · skip
            refine lo_iinc (lv' := [(2, .int (iI (ix + 1))), (0, .ref (a 0)), (1, .int (iI sm))]) E dX3_countRunning_33 hl (k := 2) rfl (by decide) rfl (fun ls hl => ?_)
            refine lv_goto (tgt := 4) Ex Eb dX3_countRunning_36 (by decide) ?_
            exact ih4 sm (ix + 1) (by omega) (by omega) (by first | (rw [cnt_y (by omega) (by omega), ← iv4_1]) | (rw [cnt_n (by omega) (by omega), ← iv4_1])) _ _ _ hw (lv_sub hl [1, 2, 0] rfl)
          · skip
            refine lo_iinc (lv' := [(1, .int (iI (sm + 1))), (0, .ref (a 0)), (2, .int (iI ix))]) E dX3_countRunning_30 hl (k := 1) rfl (by decide) rfl (fun ls hl => ?_)
            refine lo_iinc (lv' := [(2, .int (iI (ix + 1))), (1, .int (iI (sm + 1))), (0, .ref (a 0))]) E dX3_countRunning_33 hl (k := 2) rfl (by decide) rfl (fun ls hl => ?_)
            refine lv_goto (tgt := 4) Ex Eb dX3_countRunning_36 (by decide) ?_
            exact ih4 (sm + 1) (ix + 1) (by omega) (by omega) (by first | (rw [cnt_y (by omega) (by omega), ← iv4_1]) | (rw [cnt_n (by omega) (by omega), ← iv4_1])) _ _ _ hw (lv_sub hl [2, 1, 0] rfl)
  exact lp4 _ 0 0 (Nat.lt_succ_self _) (by omega) (rfl) _ _ _ hw (lv_sub hl [2, 1, 0] rfl)
set_option maxHeartbeats 4000000 in
set_option maxRecDepth 100000 in
theorem kX3_firstByRate (l : Launch) (X : KX) (a b : Nat → Nat) (P : PT) (hPI : PI P) : CM l X yX3_firstByRate wsX3_firstByRate ({ frames := 1, cells := 0, slots := 0, locals := 20 }) [.ref (a 0)] ([oX3 (a 0) (a 1) (a 2) (Pn P), arN X (a 1) 6 b, oX0 (a 2) (a 3) (a 4) (a 5) (Px P) (Pk P), arI X (a 3) 20 (Pa P), arI X (a 4) 20 (Pb P), arI X (a 5) 20 (Pd P)] ++ ((lsW b (PL P)))) (fun v9 w9 => v9 = some (.int (iI (dst (PL P) (Pn P).toNat))) ∧ w9 = [oX3 (a 0) (a 1) (a 2) (Pn P), arN X (a 1) 6 b, oX0 (a 2) (a 3) (a 4) (a 5) (Px P) (Pk P), arI X (a 3) 20 (Pa P), arI X (a 4) 20 (Pb P), arI X (a 5) 20 (Pd P)] ++ ((lsW b (PL P)))) 0 0 := by
  refine lo_enter (cc := cX3_firstByRate) (maxL := 4) (ret := (some .int)) (lv := [(0, .ref (a 0))]) (by decide) rfl rfl (Nat.le_of_ble_eq_true rfl) ?_
  intro p9 e9 s9 m9 bl9 me9 c9 A9 ls hAe E hRt hLk hK hl hw
  have Ex := E.1
  have Eb := E.2.1
  have huRX3 : ∀ w ∈ u_ws RX3 TX3 3, w ∈ wsX3_firstByRate := by decide +kernel
  have hf24 : (Cond.fieldLink RX3 24 "LoanSchedule$Plan" "count" "I").before _ s9 = true := E.2.2.2.2 _ (List.mem_of_getElem? (i := 1) rfl)
  have hf11 : (Cond.fieldLink RX3 11 "LoanSchedule$Plan" "loans" "[LLoanSchedule$Loan;").before _ s9 = true := E.2.2.2.2 _ (List.mem_of_getElem? (i := 2) rfl)
  have huRX2 : ∀ w ∈ u_ws RX2 TX2 10, w ∈ wsX3_firstByRate := by decide +kernel
  have hf104 : (Cond.fieldLink RX3 104 "LoanSchedule$Loan" "rate" "I").before _ s9 = true := E.2.2.2.2 _ (List.mem_of_getElem? (i := 3) rfl)
  obtain ⟨⟨hn0, hn1⟩, ⟨hx0, hx1⟩, ⟨hk0, hk1⟩, hL⟩ := id hPI
  refine lv_iconst (v := iI (-1)) Ex Eb dX3_firstByRate_0 rfl ?_
  refine lv_istore_n (lv' := [(1, .int (iI (-1))), (0, .ref (a 0))]) Ex Eb dX3_firstByRate_1 rfl hl (by decide) rfl (fun ls hl => ?_)
  refine lv_iconst (v := iI (-1)) Ex Eb dX3_firstByRate_2 rfl ?_
  refine lv_istore_n (lv' := [(2, .int (iI (-1))), (1, .int (iI (-1))), (0, .ref (a 0))]) Ex Eb dX3_firstByRate_3 rfl hl (by decide) rfl (fun ls hl => ?_)
  refine lv_iconst (v := iI 0) Ex Eb dX3_firstByRate_4 rfl ?_
  refine lv_istore_n (lv' := [(3, .int (iI 0)), (2, .int (iI (-1))), (1, .int (iI (-1))), (0, .ref (a 0))]) Ex Eb dX3_firstByRate_5 rfl hl (by decide) rfl (fun ls hl => ?_)
  have lp6 : ∀ (n : Nat) (fi gr ix : Int), (Pn P - ix).toNat < n → (0 ≤ ix ∧ ix ≤ Pn P) → (fi = dst (PL P) ix.toNat) → ((fi = -1 ∧ gr = -1) ∨ (0 ≤ fi ∧ fi < ix ∧ gr = PL P fi.toNat 2)) → (-1 ≤ gr ∧ gr ≤ 3000) → ∀ (H : Heap) (locs : List Loc) (ls : Array Slot), lo_Wd X ([oX3 (a 0) (a 1) (a 2) (Pn P), arN X (a 1) 6 b, oX0 (a 2) (a 3) (a 4) (a 5) (Px P) (Pk P), arI X (a 3) 20 (Pa P), arI X (a 4) 20 (Pb P), arI X (a 5) 20 (Pd P)] ++ ((lsW b (PL P)))) A9 s9.heap H locs → lv_has ls 4 [(0, .ref (a 0)), (1, .int (iI fi)), (2, .int (iI gr)), (3, .int (iI ix))] → W p9 l e9 ({ frames := 1, cells := 0, slots := 0, locals := 20 } : Room) s9 m9 ([.ref (a 0)] : List Value).toArray bl9 me9 c9 H locs 0 0 (MQ bl9 (lo_Qc X ([oX3 (a 0) (a 1) (a 2) (Pn P), arN X (a 1) 6 b, oX0 (a 2) (a 3) (a 4) (a 5) (Px P) (Pk P), arI X (a 3) 20 (Pa P), arI X (a 4) 20 (Pb P), arI X (a 5) 20 (Pd P)] ++ ((lsW b (PL P)))) s9.heap.size (fun v9 w9 => v9 = some (.int (iI (dst (PL P) (Pn P).toNat))) ∧ w9 = [oX3 (a 0) (a 1) (a 2) (Pn P), arN X (a 1) 6 b, oX0 (a 2) (a 3) (a 4) (a 5) (Px P) (Pk P), arI X (a 3) 20 (Pa P), arI X (a 4) 20 (Pb P), arI X (a 5) 20 (Pd P)] ++ ((lsW b (PL P))))) ([.ref (a 0)] : List Value).toArray s9 0 0 A9) (F0 m9 6 ls []) := by
    intro n
    induction n with
    | zero => intro fi gr ix hn; exact absurd hn (Nat.not_lt_zero _)
    | succ n ih6 =>
      intro fi gr ix hn6 iv6_0 iv6_1 iv6_2 iv6_3 H locs ls hw hl
      refine lv_iload_n Ex Eb dX3_firstByRate_6 rfl (lv_at hl 3 rfl) ?_
      refine lv_aload_n Ex Eb dX3_firstByRate_7 rfl (lv_at hl 0 rfl) ?_
      refine lo_get E hK hw huRX3 2 hf24 rfl 0 rfl rfl (by decide) (v := .int (iI (Pn P))) rfl dX3_firstByRate_8 ?_
      refine lo_icmp_ge (tgt := 63) E dX3_firstByRate_11 (by decide) (by omega) (by omega) (fun c1 => ?_) (fun c1 => ?_)
      · skip
        refine lv_iload_n Ex Eb dX3_firstByRate_63 rfl (lv_at hl 1 rfl) ?_
        exact lo_iret E hRt hLk hK hAe hw dX3_firstByRate_64 rfl ⟨by rw [iv6_1, show ix = Pn P by omega], rfl⟩
      · skip
        refine lv_iload_n Ex Eb dX3_firstByRate_14 rfl (lv_at hl 3 rfl) ?_
        refine lv_bipush (v := iI 6) Ex Eb dX3_firstByRate_15 rfl ?_
        refine lo_icmp_ge (tgt := 63) E dX3_firstByRate_17 (by decide) (by omega) (by omega) (fun c2 => ?_) (fun c2 => ?_)
        · skip
          refine lv_iload_n Ex Eb dX3_firstByRate_63 rfl (lv_at hl 1 rfl) ?_
          exact lo_iret E hRt hLk hK hAe hw dX3_firstByRate_64 rfl ⟨by rw [iv6_1, show ix = Pn P by omega], rfl⟩
        · skip
          refine lv_aload_n Ex Eb dX3_firstByRate_20 rfl (lv_at hl 0 rfl) ?_
          refine lo_get E hK hw huRX3 0 hf11 rfl 0 rfl rfl (by decide) (v := .ref (a 1)) rfl dX3_firstByRate_21 ?_
          have hLi := hL (ix).toNat (by omega)
          obtain ⟨⟨hb0, hb1⟩, ⟨hr0, hr1⟩, ⟨hc0, hc1⟩, ⟨hm0, hm1⟩, ⟨hi0, hi1⟩, ⟨hs0, hs1⟩, hop, hcl⟩ := id hLi
          refine lv_iload_n Ex Eb dX3_firstByRate_24 rfl (lv_at hl 3 rfl) ?_
          refine lo_aldN E hK hw 1 rfl (by omega) dX3_firstByRate_25 ?_
          refine lo_callV (q0 := (6 + ix.toNat)) (rest := []) E hK hw (kX2_isRunning l X (b ix.toNat) (PL P ix.toNat) (by omega)) (cwV 0 E.2.2.2.2 gX3_firstByRate_X2_isRunning rfl rfl rfl (by decide +kernel) ⟨Nat.le_of_ble_eq_true rfl, Nat.le_of_ble_eq_true rfl⟩) (lsW_atE (k := 6) rfl (by omega)) rfl [6 + ix.toNat] (lo_ps_cons (lsW_atE (k := 6) rfl (by omega)) lo_ps_nil) (by simp [va_nd]) hl.1 rfl rfl (Nat.le_of_ble_eq_true rfl) dX3_firstByRate_26 ⟨Nat.le_of_ble_eq_true rfl, Nat.le_of_ble_eq_true rfl⟩ (fun v w1 H locs hq hw => ?_)
          obtain ⟨r3, q26_0, rfl, rfl⟩ := hq
          have hw := lo_cast (lsW_cE0 (k := 6) rfl (by omega)) hw
          have hw : lo_Wd X ([oX3 (a 0) (a 1) (a 2) (Pn P), arN X (a 1) 6 b, oX0 (a 2) (a 3) (a 4) (a 5) (Px P) (Pk P), arI X (a 3) 20 (Pa P), arI X (a 4) 20 (Pb P), arI X (a 5) 20 (Pd P)] ++ ((lsW b (PL P)))) A9 s9.heap H locs := hw
          refine W.eq (g2 := F0 m9 29 ls [.int (iI r3)]) rfl ?_
          refine lo_if_eq (tgt := 57) E dX3_firstByRate_29 (by decide) (by omega) (fun c4 => ?_) (fun c4 => ?_)
          · skip
            refine lo_iinc (lv' := [(3, .int (iI (ix + 1))), (0, .ref (a 0)), (1, .int (iI fi)), (2, .int (iI gr))]) E dX3_firstByRate_57 hl (k := 3) rfl (by decide) rfl (fun ls hl => ?_)
            refine lv_goto (tgt := 6) Ex Eb dX3_firstByRate_60 (by decide) ?_
            exact ih6 fi gr (ix + 1) (by omega) (by omega) (by rw [show (ix + 1).toNat = ix.toNat + 1 by omega]; first | (rw [dst_y iv6_1 (by omega) (by omega)]; omega) | (rw [dst_n iv6_1 (by omega)])) (by omega) (by omega) _ _ _ hw (lv_sub hl [1, 2, 3, 0] rfl)
          · skip
            refine lv_aload_n Ex Eb dX3_firstByRate_32 rfl (lv_at hl 0 rfl) ?_
            refine lo_get E hK hw huRX3 0 hf11 rfl 0 rfl rfl (by decide) (v := .ref (a 1)) rfl dX3_firstByRate_33 ?_
            refine lv_iload_n Ex Eb dX3_firstByRate_36 rfl (lv_at hl 3 rfl) ?_
            refine lo_aldN E hK hw 1 rfl (by omega) dX3_firstByRate_37 ?_
            refine lo_get E hK hw huRX2 2 hf104 rfl (6 + ix.toNat) (lsW_atE (k := 6) rfl (by omega)) rfl (by decide) (v := .int (iI (PL P ix.toNat 2))) rfl dX3_firstByRate_38 ?_
            refine lv_iload_n Ex Eb dX3_firstByRate_41 rfl (lv_at hl 2 rfl) ?_
            refine lo_icmp_le (tgt := 57) E dX3_firstByRate_42 (by decide) (by omega) (by omega) (fun c5 => ?_) (fun c5 => ?_)
            · skip
              refine lo_iinc (lv' := [(3, .int (iI (ix + 1))), (0, .ref (a 0)), (1, .int (iI fi)), (2, .int (iI gr))]) E dX3_firstByRate_57 hl (k := 3) rfl (by decide) rfl (fun ls hl => ?_)
              refine lv_goto (tgt := 6) Ex Eb dX3_firstByRate_60 (by decide) ?_
              exact ih6 fi gr (ix + 1) (by omega) (by omega) (by rw [show (ix + 1).toNat = ix.toNat + 1 by omega]; first | (rw [dst_y iv6_1 (by omega) (by omega)]; omega) | (rw [dst_n iv6_1 (by omega)])) (by omega) (by omega) _ _ _ hw (lv_sub hl [1, 2, 3, 0] rfl)
            · skip
              refine lv_iload_n Ex Eb dX3_firstByRate_45 rfl (lv_at hl 3 rfl) ?_
              refine lv_istore_n (lv' := [(1, .int (iI ix)), (0, .ref (a 0)), (2, .int (iI gr)), (3, .int (iI ix))]) Ex Eb dX3_firstByRate_46 rfl hl (by decide) rfl (fun ls hl => ?_)
              refine lv_aload_n Ex Eb dX3_firstByRate_47 rfl (lv_at hl 1 rfl) ?_
              refine lo_get E hK hw huRX3 0 hf11 rfl 0 rfl rfl (by decide) (v := .ref (a 1)) rfl dX3_firstByRate_48 ?_
              refine lv_iload_n Ex Eb dX3_firstByRate_51 rfl (lv_at hl 3 rfl) ?_
              refine lo_aldN E hK hw 1 rfl (by omega) dX3_firstByRate_52 ?_
              refine lo_get E hK hw huRX2 2 hf104 rfl (6 + ix.toNat) (lsW_atE (k := 6) rfl (by omega)) rfl (by decide) (v := .int (iI (PL P ix.toNat 2))) rfl dX3_firstByRate_53 ?_
              refine lv_istore_n (lv' := [(2, .int (iI (PL P ix.toNat 2))), (1, .int (iI ix)), (0, .ref (a 0)), (3, .int (iI ix))]) Ex Eb dX3_firstByRate_56 rfl hl (by decide) rfl (fun ls hl => ?_)
              refine lo_iinc (lv' := [(3, .int (iI (ix + 1))), (2, .int (iI (PL P ix.toNat 2))), (1, .int (iI ix)), (0, .ref (a 0))]) E dX3_firstByRate_57 hl (k := 3) rfl (by decide) rfl (fun ls hl => ?_)
              refine lv_goto (tgt := 6) Ex Eb dX3_firstByRate_60 (by decide) ?_
              exact ih6 ix (PL P ix.toNat 2) (ix + 1) (by omega) (by omega) (by rw [show (ix + 1).toNat = ix.toNat + 1 by omega]; first | (rw [dst_y iv6_1 (by omega) (by omega)]; omega) | (rw [dst_n iv6_1 (by omega)])) (by omega) (by omega) _ _ _ hw (lv_sub hl [3, 2, 1, 0] rfl)
  exact lp6 _ (-1) (-1) 0 (Nat.lt_succ_self _) (by omega) (rfl) (by omega) (by omega) _ _ _ hw (lv_sub hl [3, 2, 1, 0] rfl)
set_option maxHeartbeats 4000000 in
set_option maxRecDepth 100000 in
theorem kX3_firstByBalance (l : Launch) (X : KX) (a b : Nat → Nat) (P : PT) (hPI : PI P) : CM l X yX3_firstByBalance wsX3_firstByBalance ({ frames := 1, cells := 0, slots := 0, locals := 20 }) [.ref (a 0)] ([oX3 (a 0) (a 1) (a 2) (Pn P), arN X (a 1) 6 b, oX0 (a 2) (a 3) (a 4) (a 5) (Px P) (Pk P), arI X (a 3) 20 (Pa P), arI X (a 4) 20 (Pb P), arI X (a 5) 20 (Pd P)] ++ ((lsW b (PL P)))) (fun v9 w9 => v9 = some (.int (iI (sml (PL P) (Pn P).toNat))) ∧ w9 = [oX3 (a 0) (a 1) (a 2) (Pn P), arN X (a 1) 6 b, oX0 (a 2) (a 3) (a 4) (a 5) (Px P) (Pk P), arI X (a 3) 20 (Pa P), arI X (a 4) 20 (Pb P), arI X (a 5) 20 (Pd P)] ++ ((lsW b (PL P)))) 0 0 := by
  refine lo_enter (cc := cX3_firstByBalance) (maxL := 4) (ret := (some .int)) (lv := [(0, .ref (a 0))]) (by decide) rfl rfl (Nat.le_of_ble_eq_true rfl) ?_
  intro p9 e9 s9 m9 bl9 me9 c9 A9 ls hAe E hRt hLk hK hl hw
  have Ex := E.1
  have Eb := E.2.1
  have hc107 : (Cond.constant RX3 107 (10000000)).before _ s9 = true := E.2.2.2.2 _ (List.mem_of_getElem? (i := 1) rfl)
  have huRX3 : ∀ w ∈ u_ws RX3 TX3 3, w ∈ wsX3_firstByBalance := by decide +kernel
  have hf24 : (Cond.fieldLink RX3 24 "LoanSchedule$Plan" "count" "I").before _ s9 = true := E.2.2.2.2 _ (List.mem_of_getElem? (i := 2) rfl)
  have hf11 : (Cond.fieldLink RX3 11 "LoanSchedule$Plan" "loans" "[LLoanSchedule$Loan;").before _ s9 = true := E.2.2.2.2 _ (List.mem_of_getElem? (i := 3) rfl)
  have huRX2 : ∀ w ∈ u_ws RX2 TX2 10, w ∈ wsX3_firstByBalance := by decide +kernel
  have hf78 : (Cond.fieldLink RX3 78 "LoanSchedule$Loan" "balance" "I").before _ s9 = true := E.2.2.2.2 _ (List.mem_of_getElem? (i := 4) rfl)
  obtain ⟨⟨hn0, hn1⟩, ⟨hx0, hx1⟩, ⟨hk0, hk1⟩, hL⟩ := id hPI
  refine lv_iconst (v := iI (-1)) Ex Eb dX3_firstByBalance_0 rfl ?_
  refine lv_istore_n (lv' := [(1, .int (iI (-1))), (0, .ref (a 0))]) Ex Eb dX3_firstByBalance_1 rfl hl (by decide) rfl (fun ls hl => ?_)
  refine lo_ldc (z := 10000000) E hc107 dX3_firstByBalance_2 rfl ?_
  refine lv_istore_n (lv' := [(2, .int (iI 10000000)), (1, .int (iI (-1))), (0, .ref (a 0))]) Ex Eb dX3_firstByBalance_4 rfl hl (by decide) rfl (fun ls hl => ?_)
  refine lv_iconst (v := iI 0) Ex Eb dX3_firstByBalance_5 rfl ?_
  refine lv_istore_n (lv' := [(3, .int (iI 0)), (2, .int (iI 10000000)), (1, .int (iI (-1))), (0, .ref (a 0))]) Ex Eb dX3_firstByBalance_6 rfl hl (by decide) rfl (fun ls hl => ?_)
  have lp7 : ∀ (n : Nat) (fi gr ix : Int), (Pn P - ix).toNat < n → (0 ≤ ix ∧ ix ≤ Pn P) → (fi = sml (PL P) ix.toNat) → ((fi = -1 ∧ gr = 10000000) ∨ (0 ≤ fi ∧ fi < ix ∧ gr = PL P fi.toNat 1)) → (0 ≤ gr ∧ gr ≤ 10000000) → ∀ (H : Heap) (locs : List Loc) (ls : Array Slot), lo_Wd X ([oX3 (a 0) (a 1) (a 2) (Pn P), arN X (a 1) 6 b, oX0 (a 2) (a 3) (a 4) (a 5) (Px P) (Pk P), arI X (a 3) 20 (Pa P), arI X (a 4) 20 (Pb P), arI X (a 5) 20 (Pd P)] ++ ((lsW b (PL P)))) A9 s9.heap H locs → lv_has ls 4 [(0, .ref (a 0)), (1, .int (iI fi)), (2, .int (iI gr)), (3, .int (iI ix))] → W p9 l e9 ({ frames := 1, cells := 0, slots := 0, locals := 20 } : Room) s9 m9 ([.ref (a 0)] : List Value).toArray bl9 me9 c9 H locs 0 0 (MQ bl9 (lo_Qc X ([oX3 (a 0) (a 1) (a 2) (Pn P), arN X (a 1) 6 b, oX0 (a 2) (a 3) (a 4) (a 5) (Px P) (Pk P), arI X (a 3) 20 (Pa P), arI X (a 4) 20 (Pb P), arI X (a 5) 20 (Pd P)] ++ ((lsW b (PL P)))) s9.heap.size (fun v9 w9 => v9 = some (.int (iI (sml (PL P) (Pn P).toNat))) ∧ w9 = [oX3 (a 0) (a 1) (a 2) (Pn P), arN X (a 1) 6 b, oX0 (a 2) (a 3) (a 4) (a 5) (Px P) (Pk P), arI X (a 3) 20 (Pa P), arI X (a 4) 20 (Pb P), arI X (a 5) 20 (Pd P)] ++ ((lsW b (PL P))))) ([.ref (a 0)] : List Value).toArray s9 0 0 A9) (F0 m9 7 ls []) := by
    intro n
    induction n with
    | zero => intro fi gr ix hn; exact absurd hn (Nat.not_lt_zero _)
    | succ n ih7 =>
      intro fi gr ix hn7 iv7_0 iv7_1 iv7_2 iv7_3 H locs ls hw hl
      refine lv_iload_n Ex Eb dX3_firstByBalance_7 rfl (lv_at hl 3 rfl) ?_
      refine lv_aload_n Ex Eb dX3_firstByBalance_8 rfl (lv_at hl 0 rfl) ?_
      refine lo_get E hK hw huRX3 2 hf24 rfl 0 rfl rfl (by decide) (v := .int (iI (Pn P))) rfl dX3_firstByBalance_9 ?_
      refine lo_icmp_ge (tgt := 64) E dX3_firstByBalance_12 (by decide) (by omega) (by omega) (fun c1 => ?_) (fun c1 => ?_)
      · skip
        refine lv_iload_n Ex Eb dX3_firstByBalance_64 rfl (lv_at hl 1 rfl) ?_
        exact lo_iret E hRt hLk hK hAe hw dX3_firstByBalance_65 rfl ⟨by rw [iv7_1, show ix = Pn P by omega], rfl⟩
      · skip
        refine lv_iload_n Ex Eb dX3_firstByBalance_15 rfl (lv_at hl 3 rfl) ?_
        refine lv_bipush (v := iI 6) Ex Eb dX3_firstByBalance_16 rfl ?_
        refine lo_icmp_ge (tgt := 64) E dX3_firstByBalance_18 (by decide) (by omega) (by omega) (fun c2 => ?_) (fun c2 => ?_)
        · skip
          refine lv_iload_n Ex Eb dX3_firstByBalance_64 rfl (lv_at hl 1 rfl) ?_
          exact lo_iret E hRt hLk hK hAe hw dX3_firstByBalance_65 rfl ⟨by rw [iv7_1, show ix = Pn P by omega], rfl⟩
        · skip
          refine lv_aload_n Ex Eb dX3_firstByBalance_21 rfl (lv_at hl 0 rfl) ?_
          refine lo_get E hK hw huRX3 0 hf11 rfl 0 rfl rfl (by decide) (v := .ref (a 1)) rfl dX3_firstByBalance_22 ?_
          have hLi := hL (ix).toNat (by omega)
          obtain ⟨⟨hb0, hb1⟩, ⟨hr0, hr1⟩, ⟨hc0, hc1⟩, ⟨hm0, hm1⟩, ⟨hi0, hi1⟩, ⟨hs0, hs1⟩, hop, hcl⟩ := id hLi
          refine lv_iload_n Ex Eb dX3_firstByBalance_25 rfl (lv_at hl 3 rfl) ?_
          refine lo_aldN E hK hw 1 rfl (by omega) dX3_firstByBalance_26 ?_
          refine lo_callV (q0 := (6 + ix.toNat)) (rest := []) E hK hw (kX2_isRunning l X (b ix.toNat) (PL P ix.toNat) (by omega)) (cwV 0 E.2.2.2.2 gX3_firstByBalance_X2_isRunning rfl rfl rfl (by decide +kernel) ⟨Nat.le_of_ble_eq_true rfl, Nat.le_of_ble_eq_true rfl⟩) (lsW_atE (k := 6) rfl (by omega)) rfl [6 + ix.toNat] (lo_ps_cons (lsW_atE (k := 6) rfl (by omega)) lo_ps_nil) (by simp [va_nd]) hl.1 rfl rfl (Nat.le_of_ble_eq_true rfl) dX3_firstByBalance_27 ⟨Nat.le_of_ble_eq_true rfl, Nat.le_of_ble_eq_true rfl⟩ (fun v w1 H locs hq hw => ?_)
          obtain ⟨r3, q27_0, rfl, rfl⟩ := hq
          have hw := lo_cast (lsW_cE0 (k := 6) rfl (by omega)) hw
          have hw : lo_Wd X ([oX3 (a 0) (a 1) (a 2) (Pn P), arN X (a 1) 6 b, oX0 (a 2) (a 3) (a 4) (a 5) (Px P) (Pk P), arI X (a 3) 20 (Pa P), arI X (a 4) 20 (Pb P), arI X (a 5) 20 (Pd P)] ++ ((lsW b (PL P)))) A9 s9.heap H locs := hw
          refine W.eq (g2 := F0 m9 30 ls [.int (iI r3)]) rfl ?_
          refine lo_if_eq (tgt := 58) E dX3_firstByBalance_30 (by decide) (by omega) (fun c4 => ?_) (fun c4 => ?_)
          · skip
            refine lo_iinc (lv' := [(3, .int (iI (ix + 1))), (0, .ref (a 0)), (1, .int (iI fi)), (2, .int (iI gr))]) E dX3_firstByBalance_58 hl (k := 3) rfl (by decide) rfl (fun ls hl => ?_)
            refine lv_goto (tgt := 7) Ex Eb dX3_firstByBalance_61 (by decide) ?_
            exact ih7 fi gr (ix + 1) (by omega) (by omega) (by rw [show (ix + 1).toNat = ix.toNat + 1 by omega]; first | (rw [sml_y iv7_1 (by omega) (by omega)]; omega) | (rw [sml_n iv7_1 (by omega)])) (by omega) (by omega) _ _ _ hw (lv_sub hl [1, 2, 3, 0] rfl)
          · skip
            refine lv_aload_n Ex Eb dX3_firstByBalance_33 rfl (lv_at hl 0 rfl) ?_
            refine lo_get E hK hw huRX3 0 hf11 rfl 0 rfl rfl (by decide) (v := .ref (a 1)) rfl dX3_firstByBalance_34 ?_
            refine lv_iload_n Ex Eb dX3_firstByBalance_37 rfl (lv_at hl 3 rfl) ?_
            refine lo_aldN E hK hw 1 rfl (by omega) dX3_firstByBalance_38 ?_
            refine lo_get E hK hw huRX2 1 hf78 rfl (6 + ix.toNat) (lsW_atE (k := 6) rfl (by omega)) rfl (by decide) (v := .int (iI (PL P ix.toNat 1))) rfl dX3_firstByBalance_39 ?_
            refine lv_iload_n Ex Eb dX3_firstByBalance_42 rfl (lv_at hl 2 rfl) ?_
            refine lo_icmp_ge (tgt := 58) E dX3_firstByBalance_43 (by decide) (by omega) (by omega) (fun c5 => ?_) (fun c5 => ?_)
            · skip
              refine lo_iinc (lv' := [(3, .int (iI (ix + 1))), (0, .ref (a 0)), (1, .int (iI fi)), (2, .int (iI gr))]) E dX3_firstByBalance_58 hl (k := 3) rfl (by decide) rfl (fun ls hl => ?_)
              refine lv_goto (tgt := 7) Ex Eb dX3_firstByBalance_61 (by decide) ?_
              exact ih7 fi gr (ix + 1) (by omega) (by omega) (by rw [show (ix + 1).toNat = ix.toNat + 1 by omega]; first | (rw [sml_y iv7_1 (by omega) (by omega)]; omega) | (rw [sml_n iv7_1 (by omega)])) (by omega) (by omega) _ _ _ hw (lv_sub hl [1, 2, 3, 0] rfl)
            · skip
              refine lv_iload_n Ex Eb dX3_firstByBalance_46 rfl (lv_at hl 3 rfl) ?_
              refine lv_istore_n (lv' := [(1, .int (iI ix)), (0, .ref (a 0)), (2, .int (iI gr)), (3, .int (iI ix))]) Ex Eb dX3_firstByBalance_47 rfl hl (by decide) rfl (fun ls hl => ?_)
              refine lv_aload_n Ex Eb dX3_firstByBalance_48 rfl (lv_at hl 1 rfl) ?_
              refine lo_get E hK hw huRX3 0 hf11 rfl 0 rfl rfl (by decide) (v := .ref (a 1)) rfl dX3_firstByBalance_49 ?_
              refine lv_iload_n Ex Eb dX3_firstByBalance_52 rfl (lv_at hl 3 rfl) ?_
              refine lo_aldN E hK hw 1 rfl (by omega) dX3_firstByBalance_53 ?_
              refine lo_get E hK hw huRX2 1 hf78 rfl (6 + ix.toNat) (lsW_atE (k := 6) rfl (by omega)) rfl (by decide) (v := .int (iI (PL P ix.toNat 1))) rfl dX3_firstByBalance_54 ?_
              refine lv_istore_n (lv' := [(2, .int (iI (PL P ix.toNat 1))), (1, .int (iI ix)), (0, .ref (a 0)), (3, .int (iI ix))]) Ex Eb dX3_firstByBalance_57 rfl hl (by decide) rfl (fun ls hl => ?_)
              refine lo_iinc (lv' := [(3, .int (iI (ix + 1))), (2, .int (iI (PL P ix.toNat 1))), (1, .int (iI ix)), (0, .ref (a 0))]) E dX3_firstByBalance_58 hl (k := 3) rfl (by decide) rfl (fun ls hl => ?_)
              refine lv_goto (tgt := 7) Ex Eb dX3_firstByBalance_61 (by decide) ?_
              exact ih7 ix (PL P ix.toNat 1) (ix + 1) (by omega) (by omega) (by rw [show (ix + 1).toNat = ix.toNat + 1 by omega]; first | (rw [sml_y iv7_1 (by omega) (by omega)]; omega) | (rw [sml_n iv7_1 (by omega)])) (by omega) (by omega) _ _ _ hw (lv_sub hl [3, 2, 1, 0] rfl)
  exact lp7 _ (-1) 10000000 0 (Nat.lt_succ_self _) (by omega) (rfl) (by omega) (by omega) _ _ _ hw (lv_sub hl [3, 2, 1, 0] rfl)
set_option maxHeartbeats 4000000 in
set_option maxRecDepth 100000 in
theorem kX3_settleAll (l : Launch) (X : KX) (a b : Nat → Nat) (P : PT) (hPI : PI P) : CM l X yX3_settleAll wsX3_settleAll ({ frames := 3, cells := 0, slots := 0, locals := 106 }) [.ref (a 0)] ([oX3 (a 0) (a 1) (a 2) (Pn P), arN X (a 1) 6 b, oX0 (a 2) (a 3) (a 4) (a 5) (Px P) (Pk P), arI X (a 3) 20 (Pa P), arI X (a 4) 20 (Pb P), arI X (a 5) 20 (Pd P)] ++ ((lsW b (PL P)))) (fun v9 w9 => v9 = some (.int (iI (plSum P (Pn P).toNat))) ∧ w9 = [oX3 (a 0) (a 1) (a 2) (Pn (plAll P (Pn P).toNat)), arN X (a 1) 6 b, oX0 (a 2) (a 3) (a 4) (a 5) (Px (plAll P (Pn P).toNat)) (Pk (plAll P (Pn P).toNat)), arI X (a 3) 20 (Pa (plAll P (Pn P).toNat)), arI X (a 4) 20 (Pb (plAll P (Pn P).toNat)), arI X (a 5) 20 (Pd (plAll P (Pn P).toNat))] ++ ((lsW b (PL (plAll P (Pn P).toNat))))) 0 0 := by
  refine lo_enter (cc := cX3_settleAll) (maxL := 3) (ret := (some .int)) (lv := [(0, .ref (a 0))]) (by decide) rfl rfl (Nat.le_of_ble_eq_true rfl) ?_
  intro p9 e9 s9 m9 bl9 me9 c9 A9 ls hAe E hRt hLk hK hl hw
  have Ex := E.1
  have Eb := E.2.1
  have huRX3 : ∀ w ∈ u_ws RX3 TX3 3, w ∈ wsX3_settleAll := by decide +kernel
  have hf24 : (Cond.fieldLink RX3 24 "LoanSchedule$Plan" "count" "I").before _ s9 = true := E.2.2.2.2 _ (List.mem_of_getElem? (i := 1) rfl)
  have hf11 : (Cond.fieldLink RX3 11 "LoanSchedule$Plan" "loans" "[LLoanSchedule$Loan;").before _ s9 = true := E.2.2.2.2 _ (List.mem_of_getElem? (i := 2) rfl)
  obtain ⟨⟨hn0, hn1⟩, ⟨hx0, hx1⟩, ⟨hk0, hk1⟩, hL⟩ := id hPI
  refine lv_iconst (v := iI 0) Ex Eb dX3_settleAll_0 rfl ?_
  refine lv_istore_n (lv' := [(1, .int (iI 0)), (0, .ref (a 0))]) Ex Eb dX3_settleAll_1 rfl hl (by decide) rfl (fun ls hl => ?_)
  refine lv_iconst (v := iI 0) Ex Eb dX3_settleAll_2 rfl ?_
  refine lv_istore_n (lv' := [(2, .int (iI 0)), (1, .int (iI 0)), (0, .ref (a 0))]) Ex Eb dX3_settleAll_3 rfl hl (by decide) rfl (fun ls hl => ?_)
  have lp4 : ∀ (n : Nat) (Q : PT) (sm ix : Int), (Pn P - ix).toNat < n → (PI Q) → (Pn Q = Pn P) → (0 ≤ ix ∧ ix ≤ Pn P) → (Q = plAll P ix.toNat) → (sm = plSum P ix.toNat) → ∀ (H : Heap) (locs : List Loc) (ls : Array Slot), lo_Wd X ([oX3 (a 0) (a 1) (a 2) (Pn Q), arN X (a 1) 6 b, oX0 (a 2) (a 3) (a 4) (a 5) (Px Q) (Pk Q), arI X (a 3) 20 (Pa Q), arI X (a 4) 20 (Pb Q), arI X (a 5) 20 (Pd Q)] ++ ((lsW b (PL Q)))) A9 s9.heap H locs → lv_has ls 3 [(0, .ref (a 0)), (1, .int (iI sm)), (2, .int (iI ix))] → W p9 l e9 ({ frames := 3, cells := 0, slots := 0, locals := 106 } : Room) s9 m9 ([.ref (a 0)] : List Value).toArray bl9 me9 c9 H locs 0 0 (MQ bl9 (lo_Qc X ([oX3 (a 0) (a 1) (a 2) (Pn P), arN X (a 1) 6 b, oX0 (a 2) (a 3) (a 4) (a 5) (Px P) (Pk P), arI X (a 3) 20 (Pa P), arI X (a 4) 20 (Pb P), arI X (a 5) 20 (Pd P)] ++ ((lsW b (PL P)))) s9.heap.size (fun v9 w9 => v9 = some (.int (iI (plSum P (Pn P).toNat))) ∧ w9 = [oX3 (a 0) (a 1) (a 2) (Pn (plAll P (Pn P).toNat)), arN X (a 1) 6 b, oX0 (a 2) (a 3) (a 4) (a 5) (Px (plAll P (Pn P).toNat)) (Pk (plAll P (Pn P).toNat)), arI X (a 3) 20 (Pa (plAll P (Pn P).toNat)), arI X (a 4) 20 (Pb (plAll P (Pn P).toNat)), arI X (a 5) 20 (Pd (plAll P (Pn P).toNat))] ++ ((lsW b (PL (plAll P (Pn P).toNat)))))) ([.ref (a 0)] : List Value).toArray s9 0 0 A9) (F0 m9 4 ls []) := by
    intro n
    induction n with
    | zero => intro Q sm ix hn; exact absurd hn (Nat.not_lt_zero _)
    | succ n ih4 =>
      intro Q sm ix hn4 iv4_0 iv4_1 iv4_2 iv4_3 iv4_4 H locs ls hw hl
      have hQn := iv4_1
      change Q.1 = P.1 at hQn
      refine lv_iload_n Ex Eb dX3_settleAll_4 rfl (lv_at hl 2 rfl) ?_
      refine lv_aload_n Ex Eb dX3_settleAll_5 rfl (lv_at hl 0 rfl) ?_
      refine lo_get E hK hw huRX3 2 hf24 rfl 0 rfl rfl (by decide) (v := .int (iI (Pn Q))) rfl dX3_settleAll_6 ?_
      refine lo_icmp_ge (tgt := 44) E dX3_settleAll_9 (by decide) (by omega) (by omega) (fun c1 => ?_) (fun c1 => ?_)
      · skip
        refine lv_iload_n Ex Eb dX3_settleAll_44 rfl (lv_at hl 1 rfl) ?_
        exact lo_iret E hRt hLk hK hAe hw dX3_settleAll_45 rfl ⟨by rw [iv4_4, show ix = Pn P by omega], by rw [iv4_3, show ix = Pn P by omega]⟩
      · skip
        refine lv_iload_n Ex Eb dX3_settleAll_12 rfl (lv_at hl 2 rfl) ?_
        refine lv_bipush (v := iI 6) Ex Eb dX3_settleAll_13 rfl ?_
        refine lo_icmp_ge (tgt := 44) E dX3_settleAll_15 (by decide) (by omega) (by omega) (fun c2 => ?_) (fun c2 => ?_)
        · skip
          refine lv_iload_n Ex Eb dX3_settleAll_44 rfl (lv_at hl 1 rfl) ?_
          exact lo_iret E hRt hLk hK hAe hw dX3_settleAll_45 rfl ⟨by rw [iv4_4, show ix = Pn P by omega], by rw [iv4_3, show ix = Pn P by omega]⟩
        · skip
          refine lv_aload_n Ex Eb dX3_settleAll_18 rfl (lv_at hl 0 rfl) ?_
          refine lo_get E hK hw huRX3 0 hf11 rfl 0 rfl rfl (by decide) (v := .ref (a 1)) rfl dX3_settleAll_19 ?_
          obtain ⟨⟨hQn0, hQn1⟩, hQx, hQk, hQL⟩ := id iv4_0
          have hLi := hQL ix.toNat (by omega)
          obtain ⟨⟨hb0, hb1⟩, ⟨hr0, hr1⟩, ⟨hc0, hc1⟩, ⟨hm0, hm1⟩, ⟨hi0, hi1⟩, ⟨hs0, hs1⟩, hop, hcl⟩ := id hLi
          refine lv_iload_n Ex Eb dX3_settleAll_22 rfl (lv_at hl 2 rfl) ?_
          refine lo_aldN E hK hw 1 rfl (by omega) dX3_settleAll_23 ?_
          refine lo_callV (q0 := (6 + ix.toNat)) (rest := []) E hK hw (kX2_isRunning l X (b ix.toNat) (PL Q ix.toNat) (by omega)) (cwV 0 E.2.2.2.2 gX3_settleAll_X2_isRunning rfl rfl rfl (by decide +kernel) ⟨Nat.le_of_ble_eq_true rfl, Nat.le_of_ble_eq_true rfl⟩) (lsW_atE (k := 6) rfl (by omega)) rfl [6 + ix.toNat] (lo_ps_cons (lsW_atE (k := 6) rfl (by omega)) lo_ps_nil) (by simp [va_nd]) hl.1 rfl rfl (Nat.le_of_ble_eq_true rfl) dX3_settleAll_24 ⟨Nat.le_of_ble_eq_true rfl, Nat.le_of_ble_eq_true rfl⟩ (fun v w1 H locs hq hw => ?_)
          obtain ⟨r3, q24_0, rfl, rfl⟩ := hq
          have hw := lo_cast (lsW_cE0 (k := 6) rfl (by omega)) hw
          have hw : lo_Wd X ([oX3 (a 0) (a 1) (a 2) (Pn Q), arN X (a 1) 6 b, oX0 (a 2) (a 3) (a 4) (a 5) (Px Q) (Pk Q), arI X (a 3) 20 (Pa Q), arI X (a 4) 20 (Pb Q), arI X (a 5) 20 (Pd Q)] ++ ((lsW b (PL Q)))) A9 s9.heap H locs := hw
          refine W.eq (g2 := F0 m9 27 ls [.int (iI r3)]) rfl ?_
          refine lo_if_eq (tgt := 38) E dX3_settleAll_27 (by decide) (by omega) (fun c4 => ?_) (fun c4 => ?_)
          · skip
            refine lo_iinc (lv' := [(2, .int (iI (ix + 1))), (0, .ref (a 0)), (1, .int (iI sm))]) E dX3_settleAll_38 hl (k := 2) rfl (by decide) rfl (fun ls hl => ?_)
            refine lv_goto (tgt := 4) Ex Eb dX3_settleAll_41 (by decide) ?_
            exact ih4 Q sm (ix + 1) (by omega) (by first | exact plPay_PI iv4_0 (by omega) (by omega) (by omega) | exact iv4_0) (by exact iv4_1) (by omega) (by first | exact plAll_y (by omega) iv4_3 (by omega) | exact plAll_no (by omega) iv4_3 (by omega)) (by first | exact plSum_y (by omega) iv4_3 iv4_4 (by omega) | exact plSum_no (by omega) iv4_3 iv4_4 (by omega)) _ _ _ hw (lv_sub hl [1, 2, 0] rfl)
          · skip
            refine lv_iload_n Ex Eb dX3_settleAll_30 rfl (lv_at hl 1 rfl) ?_
            refine lv_aload_n Ex Eb dX3_settleAll_31 rfl (lv_at hl 0 rfl) ?_
            refine lv_iload_n Ex Eb dX3_settleAll_32 rfl (lv_at hl 2 rfl) ?_
            refine lo_callV (q0 := 0) (rest := [.int (iI sm)]) E hK hw (kX3_settle l X a b Q ix (by omega) (by omega) (by omega)) (cwV 1 E.2.2.2.2 gX3_settleAll_X3_settle rfl rfl rfl (by decide +kernel) ⟨Nat.le_of_ble_eq_true rfl, Nat.le_of_ble_eq_true rfl⟩) rfl rfl [0, 1, 2, 3, 4, 5, 6, 7, 8, 9, 10, 11] rfl (by decide) hl.1 rfl rfl (Nat.le_of_ble_eq_true rfl) dX3_settleAll_33 ⟨Nat.le_of_ble_eq_true rfl, Nat.le_of_ble_eq_true rfl⟩ (fun v w1 H locs hq hw => ?_)
            obtain ⟨rfl, rfl⟩ := hq
            have hw : lo_Wd X ([oX3 (a 0) (a 1) (a 2) (Pn (plPay Q ix)), arN X (a 1) 6 b, oX0 (a 2) (a 3) (a 4) (a 5) (Px (plPay Q ix)) (Pk (plPay Q ix)), arI X (a 3) 20 (Pa (plPay Q ix)), arI X (a 4) 20 (Pb (plPay Q ix)), arI X (a 5) 20 (Pd (plPay Q ix))] ++ ((lsW b (PL (plPay Q ix))))) A9 s9.heap H locs := hw
            refine W.eq (g2 := F0 m9 36 ls [.int (iI (dueL (PL Q ix.toNat))), .int (iI sm)]) rfl ?_
            refine lo_iadd E dX3_settleAll_36 ?_
            refine lv_istore_n (lv' := [(1, .int (iI (sm + dueL (PL Q ix.toNat)))), (0, .ref (a 0)), (2, .int (iI ix))]) Ex Eb dX3_settleAll_37 rfl hl (by decide) rfl (fun ls hl => ?_)
            refine lo_iinc (lv' := [(2, .int (iI (ix + 1))), (1, .int (iI (sm + dueL (PL Q ix.toNat)))), (0, .ref (a 0))]) E dX3_settleAll_38 hl (k := 2) rfl (by decide) rfl (fun ls hl => ?_)
            refine lv_goto (tgt := 4) Ex Eb dX3_settleAll_41 (by decide) ?_
            exact ih4 (plPay Q ix) (sm + dueL (PL Q ix.toNat)) (ix + 1) (by omega) (by first | exact plPay_PI iv4_0 (by omega) (by omega) (by omega) | exact iv4_0) (by exact iv4_1) (by omega) (by first | exact plAll_y (by omega) iv4_3 (by omega) | exact plAll_no (by omega) iv4_3 (by omega)) (by first | exact plSum_y (by omega) iv4_3 iv4_4 (by omega) | exact plSum_no (by omega) iv4_3 iv4_4 (by omega)) _ _ _ hw (lv_sub hl [2, 1, 0] rfl)
  exact lp4 _ P 0 0 (Nat.lt_succ_self _) (by exact hPI) (rfl) (by omega) (rfl) (rfl) _ _ _ hw (lv_sub hl [2, 1, 0] rfl)
set_option maxHeartbeats 4000000 in
set_option maxRecDepth 100000 in
theorem kX3_reduce (l : Launch) (X : KX) (a b : Nat → Nat) (P : PT) (i x kp : Int) (hPI : PI P) (hi : 0 ≤ i ∧ i < Pn P) (ho : 0 < PL P i.toNat 1) (hx : 1 ≤ x ∧ x ≤ PL P i.toNat 1) (hkp : kp = 0 ∨ kp = 1) : CM l X yX3_reduce wsX3_reduce ({ frames := 3, cells := 0, slots := 0, locals := 83 }) [.ref (a 0), .int (iI i), .int (iI x), .int (iI kp)] ([oX3 (a 0) (a 1) (a 2) (Pn P), arN X (a 1) 6 b, oX0 (a 2) (a 3) (a 4) (a 5) (Px P) (Pk P), arI X (a 3) 20 (Pa P), arI X (a 4) 20 (Pb P), arI X (a 5) 20 (Pd P)] ++ ((lsW b (PL P)))) (fun v9 w9 => v9 = none ∧ w9 = [oX3 (a 0) (a 1) (a 2) (Pn (plRed P i x kp)), arN X (a 1) 6 b, oX0 (a 2) (a 3) (a 4) (a 5) (Px (plRed P i x kp)) (Pk (plRed P i x kp)), arI X (a 3) 20 (Pa (plRed P i x kp)), arI X (a 4) 20 (Pb (plRed P i x kp)), arI X (a 5) 20 (Pd (plRed P i x kp))] ++ ((lsW b (PL (plRed P i x kp))))) 0 0 := by
  refine lo_enter (cc := cX3_reduce) (maxL := 4) (ret := none) (lv := [(0, .ref (a 0)), (1, .int (iI i)), (2, .int (iI x)), (3, .int (iI kp))]) (by decide) rfl rfl (Nat.le_of_ble_eq_true rfl) ?_
  intro p9 e9 s9 m9 bl9 me9 c9 A9 ls hAe E hRt hLk hK hl hw
  have Ex := E.1
  have Eb := E.2.1
  have huRX3 : ∀ w ∈ u_ws RX3 TX3 3, w ∈ wsX3_reduce := by decide +kernel
  have hf11 : (Cond.fieldLink RX3 11 "LoanSchedule$Plan" "loans" "[LLoanSchedule$Loan;").before _ s9 = true := E.2.2.2.2 _ (List.mem_of_getElem? (i := 1) rfl)
  have hf20 : (Cond.fieldLink RX3 20 "LoanSchedule$Plan" "book" "LLoanSchedule$Book;").before _ s9 = true := E.2.2.2.2 _ (List.mem_of_getElem? (i := 2) rfl)
  obtain ⟨⟨hn0, hn1⟩, ⟨hx0, hx1⟩, ⟨hk0, hk1⟩, hL⟩ := id hPI
  have hLi := hL (i).toNat (by omega)
  obtain ⟨⟨hb0, hb1⟩, ⟨hr0, hr1⟩, ⟨hc0, hc1⟩, ⟨hm0, hm1⟩, ⟨hi0, hi1⟩, ⟨hs0, hs1⟩, hop, hcl⟩ := id hLi
  refine lv_aload_n Ex Eb dX3_reduce_0 rfl (lv_at hl 0 rfl) ?_
  refine lv_iload_n Ex Eb dX3_reduce_1 rfl (lv_at hl 1 rfl) ?_
  refine lo_callV (q0 := 0) (rest := []) E hK hw (kX3_has l X a b P i (by omega) (by omega)) (cwV 1 E.2.2.2.2 gX3_reduce_X3_has rfl rfl rfl (by decide +kernel) ⟨Nat.le_of_ble_eq_true rfl, Nat.le_of_ble_eq_true rfl⟩) rfl rfl [0, 1, 2, 3, 4, 5, 6, 7, 8, 9, 10, 11] rfl (by decide) hl.1 rfl rfl (Nat.le_of_ble_eq_true rfl) dX3_reduce_2 ⟨Nat.le_of_ble_eq_true rfl, Nat.le_of_ble_eq_true rfl⟩ (fun v w1 H locs hq hw => ?_)
  obtain ⟨r1, q2_0, rfl, rfl⟩ := hq
  have hw : lo_Wd X ([oX3 (a 0) (a 1) (a 2) (Pn P), arN X (a 1) 6 b, oX0 (a 2) (a 3) (a 4) (a 5) (Px P) (Pk P), arI X (a 3) 20 (Pa P), arI X (a 4) 20 (Pb P), arI X (a 5) 20 (Pd P)] ++ ((lsW b (PL P)))) A9 s9.heap H locs := hw
  refine W.eq (g2 := F0 m9 5 ls [.int (iI r1)]) rfl ?_
  refine lo_if_eq (tgt := 29) E dX3_reduce_5 (by decide) (by omega) (fun c2 => ?_) (fun c2 => ?_)
  · exact absurd c2 (by omega)
  · skip
    refine lv_aload_n Ex Eb dX3_reduce_8 rfl (lv_at hl 0 rfl) ?_
    refine lo_get E hK hw huRX3 0 hf11 rfl 0 rfl rfl (by decide) (v := .ref (a 1)) rfl dX3_reduce_9 ?_
    refine lv_iload_n Ex Eb dX3_reduce_12 rfl (lv_at hl 1 rfl) ?_
    refine lo_aldN E hK hw 1 rfl (by omega) dX3_reduce_13 ?_
    refine lv_iload_n Ex Eb dX3_reduce_14 rfl (lv_at hl 2 rfl) ?_
    refine lv_iload_n Ex Eb dX3_reduce_15 rfl (lv_at hl 3 rfl) ?_
    refine lo_callV (q0 := (6 + i.toNat)) (rest := []) E hK hw (kX2_reduceBy l X (b i.toNat) (PL P i.toNat) x kp (hLi) (ho) (hx) (hkp)) (cwV 2 E.2.2.2.2 gX3_reduce_X2_reduceBy rfl rfl rfl (by decide +kernel) ⟨Nat.le_of_ble_eq_true rfl, Nat.le_of_ble_eq_true rfl⟩) (lsW_atE (k := 6) rfl (by omega)) rfl [6 + i.toNat] (lo_ps_cons (lsW_atE (k := 6) rfl (by omega)) lo_ps_nil) (by simp [va_nd]) hl.1 rfl rfl (Nat.le_of_ble_eq_true rfl) dX3_reduce_16 ⟨Nat.le_of_ble_eq_true rfl, Nat.le_of_ble_eq_true rfl⟩ (fun v w1 H locs hq hw => ?_)
    obtain ⟨rfl, rfl⟩ := hq
    have hw := lo_cast (lsW_cE1 (k := 6) rfl (by omega) (redL (PL P i.toNat) x kp)) hw
    have hw : lo_Wd X ([oX3 (a 0) (a 1) (a 2) (Pn P), arN X (a 1) 6 b, oX0 (a 2) (a 3) (a 4) (a 5) (Px P) (Pk P), arI X (a 3) 20 (Pa P), arI X (a 4) 20 (Pb P), arI X (a 5) 20 (Pd P)] ++ ((lsW b (uF (PL P) i.toNat (redL (PL P i.toNat) x kp))))) A9 s9.heap H locs := hw
    refine W.eq (g2 := F0 m9 19 ls []) rfl ?_
    refine lv_aload_n Ex Eb dX3_reduce_19 rfl (lv_at hl 0 rfl) ?_
    refine lo_get E hK hw huRX3 1 hf20 rfl 0 rfl rfl (by decide) (v := .ref (a 2)) rfl dX3_reduce_20 ?_
    refine lv_iload_n Ex Eb dX3_reduce_23 rfl (lv_at hl 1 rfl) ?_
    refine lv_iload_n Ex Eb dX3_reduce_24 rfl (lv_at hl 2 rfl) ?_
    refine lv_iconst (v := iI 0) Ex Eb dX3_reduce_25 rfl ?_
    refine lo_callV (q0 := 2) (rest := []) E hK hw (kX0_write l X (a 2) (a 3) (a 4) (a 5) (Px P) (Pk P) (Pa P) (Pb P) (Pd P) i x 0 (by omega) (by omega)) (cwV 3 E.2.2.2.2 gX3_reduce_X0_write rfl rfl rfl (by decide +kernel) ⟨Nat.le_of_ble_eq_true rfl, Nat.le_of_ble_eq_true rfl⟩) rfl rfl [2, 3, 4, 5] rfl (by decide) hl.1 rfl rfl (Nat.le_of_ble_eq_true rfl) dX3_reduce_26 ⟨Nat.le_of_ble_eq_true rfl, Nat.le_of_ble_eq_true rfl⟩ (fun v w1 H locs hq hw => ?_)
    obtain ⟨rfl, rfl⟩ := hq
    have hw : lo_Wd X ([oX3 (a 0) (a 1) (a 2) (Pn P), arN X (a 1) 6 b, oX0 (a 2) (a 3) (a 4) (a 5) (((Px P) + 1) % 20) (min ((Pk P) + 1) 20), arI X (a 3) 20 (uI (Pa P) (Px P).toNat i), arI X (a 4) 20 (uI (Pb P) (Px P).toNat x), arI X (a 5) 20 (uI (Pd P) (Px P).toNat 0)] ++ ((lsW b (uF (PL P) i.toNat (redL (PL P i.toNat) x kp))))) A9 s9.heap H locs := hw
    refine W.eq (g2 := F0 m9 29 ls []) rfl ?_
    exact lo_vret E hRt hLk hK hAe hw dX3_reduce_29 rfl ⟨rfl, rfl⟩
set_option maxHeartbeats 4000000 in
set_option maxRecDepth 100000 in
theorem kX3_spend (l : Launch) (X : KX) (a b : Nat → Nat) (P : PT) (x y : Int) (hPI : PI P) (hx : 0 ≤ x ∧ x ≤ 9999999) (hy : y = 0 ∨ y = 1) : CM l X yX3_spend wsX3_spend ({ frames := 4, cells := 0, slots := 0, locals := 106 }) [.ref (a 0), .int (iI x), .int (iI y)] ([oX3 (a 0) (a 1) (a 2) (Pn P), arN X (a 1) 6 b, oX0 (a 2) (a 3) (a 4) (a 5) (Px P) (Pk P), arI X (a 3) 20 (Pa P), arI X (a 4) 20 (Pb P), arI X (a 5) 20 (Pd P)] ++ ((lsW b (PL P)))) (fun v9 w9 => v9 = some (.int (iI (x - (spF y 6 P x).2))) ∧ w9 = [oX3 (a 0) (a 1) (a 2) (Pn (spF y 6 P x).1), arN X (a 1) 6 b, oX0 (a 2) (a 3) (a 4) (a 5) (Px (spF y 6 P x).1) (Pk (spF y 6 P x).1), arI X (a 3) 20 (Pa (spF y 6 P x).1), arI X (a 4) 20 (Pb (spF y 6 P x).1), arI X (a 5) 20 (Pd (spF y 6 P x).1)] ++ ((lsW b (PL (spF y 6 P x).1)))) 0 0 := by
  refine lo_enter (cc := cX3_spend) (maxL := 7) (ret := (some .int)) (lv := [(0, .ref (a 0)), (1, .int (iI x)), (2, .int (iI y))]) (by decide) rfl rfl (Nat.le_of_ble_eq_true rfl) ?_
  intro p9 e9 s9 m9 bl9 me9 c9 A9 ls hAe E hRt hLk hK hl hw
  have Ex := E.1
  have Eb := E.2.1
  have huRX3 : ∀ w ∈ u_ws RX3 TX3 3, w ∈ wsX3_spend := by decide +kernel
  have hf11 : (Cond.fieldLink RX3 11 "LoanSchedule$Plan" "loans" "[LLoanSchedule$Loan;").before _ s9 = true := E.2.2.2.2 _ (List.mem_of_getElem? (i := 1) rfl)
  have huRX2 : ∀ w ∈ u_ws RX2 TX2 10, w ∈ wsX3_spend := by decide +kernel
  have hf78 : (Cond.fieldLink RX3 78 "LoanSchedule$Loan" "balance" "I").before _ s9 = true := E.2.2.2.2 _ (List.mem_of_getElem? (i := 2) rfl)
  have hl81 : (Cond.methodLink RX3 81 Lib.Math.min.name).before _ s9 = true := E.2.2.2.2 _ (List.mem_of_getElem? (i := 3) rfl)
  have hstmin : (Cond.static Lib.Math.min.name).before _ s9 = true := E.2.2.2.2 _ (List.mem_of_getElem? (i := 4) rfl)
  have hmath : (Cond.initialized "java/lang/Math").before _ s9 = true := E.2.2.2.2 _ (List.mem_of_getElem? (i := 5) rfl)
  have hcdmin : (Cond.code Lib.Math.min.name Lib.Math.min.code 2 (some .int)).before _ s9 = true := E.2.2.2.2 _ (List.mem_of_getElem? (i := 6) rfl)
  obtain ⟨⟨hn0, hn1⟩, ⟨hx0, hx1⟩, ⟨hk0, hk1⟩, hL⟩ := id hPI
  refine lv_iload_n Ex Eb dX3_spend_0 rfl (lv_at hl 1 rfl) ?_
  refine lv_istore_n (lv' := [(3, .int (iI x)), (0, .ref (a 0)), (1, .int (iI x)), (2, .int (iI y))]) Ex Eb dX3_spend_1 rfl hl (by decide) rfl (fun ls hl => ?_)
  refine lv_iconst (v := iI 0) Ex Eb dX3_spend_2 rfl ?_
  refine lv_istore (lv' := [(4, .int (iI 0)), (3, .int (iI x)), (0, .ref (a 0)), (1, .int (iI x)), (2, .int (iI y))]) Ex Eb dX3_spend_3 hl (by decide) rfl (fun ls hl => ?_)
  have lp5 : ∀ (n : Nat) (Q : PT) (re ix : Int), (6 - ix).toNat < n → (PI Q) → (0 ≤ ix ∧ ix ≤ 6) → (0 ≤ re ∧ re ≤ x) → (spF y (6 - ix).toNat Q re = spF y 6 P x) → ∀ (H : Heap) (locs : List Loc) (ls : Array Slot), lo_Wd X ([oX3 (a 0) (a 1) (a 2) (Pn Q), arN X (a 1) 6 b, oX0 (a 2) (a 3) (a 4) (a 5) (Px Q) (Pk Q), arI X (a 3) 20 (Pa Q), arI X (a 4) 20 (Pb Q), arI X (a 5) 20 (Pd Q)] ++ ((lsW b (PL Q)))) A9 s9.heap H locs → lv_has ls 7 [(0, .ref (a 0)), (1, .int (iI x)), (2, .int (iI y)), (3, .int (iI re)), (4, .int (iI ix))] → W p9 l e9 ({ frames := 4, cells := 0, slots := 0, locals := 106 } : Room) s9 m9 ([.ref (a 0), .int (iI x), .int (iI y)] : List Value).toArray bl9 me9 c9 H locs 0 0 (MQ bl9 (lo_Qc X ([oX3 (a 0) (a 1) (a 2) (Pn P), arN X (a 1) 6 b, oX0 (a 2) (a 3) (a 4) (a 5) (Px P) (Pk P), arI X (a 3) 20 (Pa P), arI X (a 4) 20 (Pb P), arI X (a 5) 20 (Pd P)] ++ ((lsW b (PL P)))) s9.heap.size (fun v9 w9 => v9 = some (.int (iI (x - (spF y 6 P x).2))) ∧ w9 = [oX3 (a 0) (a 1) (a 2) (Pn (spF y 6 P x).1), arN X (a 1) 6 b, oX0 (a 2) (a 3) (a 4) (a 5) (Px (spF y 6 P x).1) (Pk (spF y 6 P x).1), arI X (a 3) 20 (Pa (spF y 6 P x).1), arI X (a 4) 20 (Pb (spF y 6 P x).1), arI X (a 5) 20 (Pd (spF y 6 P x).1)] ++ ((lsW b (PL (spF y 6 P x).1))))) ([.ref (a 0), .int (iI x), .int (iI y)] : List Value).toArray s9 0 0 A9) (F0 m9 5 ls []) := by
    intro n
    induction n with
    | zero => intro Q re ix hn; exact absurd hn (Nat.not_lt_zero _)
    | succ n ih5 =>
      intro Q re ix hn5 iv5_0 iv5_1 iv5_2 iv5_3 H locs ls hw hl
      obtain ⟨⟨hQn0, hQn1⟩, hQx, hQk, hQL⟩ := id iv5_0
      refine lv_iload Ex Eb dX3_spend_5 (lv_at hl 4 rfl) ?_
      refine lv_bipush (v := iI 6) Ex Eb dX3_spend_7 rfl ?_
      refine lo_icmp_ge (tgt := 82) E dX3_spend_9 (by decide) (by omega) (by omega) (fun c1 => ?_) (fun c1 => ?_)
      · skip
        refine lv_iload_n Ex Eb dX3_spend_82 rfl (lv_at hl 1 rfl) ?_
        refine lv_iload_n Ex Eb dX3_spend_83 rfl (lv_at hl 3 rfl) ?_
        refine lo_isub E dX3_spend_84 ?_
        exact lo_iret E hRt hLk hK hAe hw dX3_spend_85 rfl ⟨by rw [← iv5_3]; first | (rw [spF_e (by omega)]) | (rw [show (6 - ix).toNat = 0 by omega]; rfl), by rw [← iv5_3]; first | (rw [spF_e (by omega)]) | (rw [show (6 - ix).toNat = 0 by omega]; rfl)⟩
      · skip
        refine lv_iload_n Ex Eb dX3_spend_12 rfl (lv_at hl 3 rfl) ?_
        refine lo_if_le (tgt := 82) E dX3_spend_13 (by decide) (by omega) (fun c2 => ?_) (fun c2 => ?_)
        · skip
          refine lv_iload_n Ex Eb dX3_spend_82 rfl (lv_at hl 1 rfl) ?_
          refine lv_iload_n Ex Eb dX3_spend_83 rfl (lv_at hl 3 rfl) ?_
          refine lo_isub E dX3_spend_84 ?_
          exact lo_iret E hRt hLk hK hAe hw dX3_spend_85 rfl ⟨by rw [← iv5_3]; first | (rw [spF_e (by omega)]) | (rw [show (6 - ix).toNat = 0 by omega]; rfl), by rw [← iv5_3]; first | (rw [spF_e (by omega)]) | (rw [show (6 - ix).toNat = 0 by omega]; rfl)⟩
        · skip
          refine lv_iload_n Ex Eb dX3_spend_16 rfl (lv_at hl 2 rfl) ?_
          refine lo_if_eq (tgt := 27) E dX3_spend_17 (by decide) (by omega) (fun c3 => ?_) (fun c3 => ?_)
          · skip
            refine lv_aload_n Ex Eb dX3_spend_27 rfl (lv_at hl 0 rfl) ?_
            refine lo_callV (q0 := 0) (rest := []) E hK hw (kX3_firstByBalance l X a b Q (by omega)) (cwV 0 E.2.2.2.2 gX3_spend_X3_firstByBalance rfl rfl rfl (by decide +kernel) ⟨Nat.le_of_ble_eq_true rfl, Nat.le_of_ble_eq_true rfl⟩) rfl rfl [0, 1, 2, 3, 4, 5, 6, 7, 8, 9, 10, 11] rfl (by decide) hl.1 rfl rfl (Nat.le_of_ble_eq_true rfl) dX3_spend_28 ⟨Nat.le_of_ble_eq_true rfl, Nat.le_of_ble_eq_true rfl⟩ (fun v w1 H locs hq hw => ?_)
            obtain ⟨rfl, rfl⟩ := hq
            have hw : lo_Wd X ([oX3 (a 0) (a 1) (a 2) (Pn Q), arN X (a 1) 6 b, oX0 (a 2) (a 3) (a 4) (a 5) (Px Q) (Pk Q), arI X (a 3) 20 (Pa Q), arI X (a 4) 20 (Pb Q), arI X (a 5) 20 (Pd Q)] ++ ((lsW b (PL Q)))) A9 s9.heap H locs := hw
            refine W.eq (g2 := F0 m9 31 ls [.int (iI (sml (PL Q) (Pn Q).toNat))]) rfl ?_
            refine lo_topi (fun fi e_fi => ?_)
            have hfi : fi = pickL y Q := by rw [e_fi]; unfold pickL; first | (rw [if_pos (show y = 0 by omega)]) | (rw [if_neg (show y ≠ 0 by omega)])
            have hpk := pickL_r y iv5_0
            rw [← hfi] at hpk
            refine lv_istore (lv' := [(5, .int (iI fi)), (0, .ref (a 0)), (1, .int (iI x)), (2, .int (iI y)), (3, .int (iI re)), (4, .int (iI ix))]) Ex Eb dX3_spend_31 hl (by decide) rfl (fun ls hl => ?_)
            refine lv_aload_n Ex Eb dX3_spend_33 rfl (lv_at hl 1 rfl) ?_
            refine lv_iload Ex Eb dX3_spend_34 (lv_at hl 0 rfl) ?_
            refine lo_callV (q0 := 0) (rest := []) E hK hw (kX3_has l X a b Q fi (by omega) (by omega)) (cwV 1 E.2.2.2.2 gX3_spend_X3_has rfl rfl rfl (by decide +kernel) ⟨Nat.le_of_ble_eq_true rfl, Nat.le_of_ble_eq_true rfl⟩) rfl rfl [0, 1, 2, 3, 4, 5, 6, 7, 8, 9, 10, 11] rfl (by decide) hl.1 rfl rfl (Nat.le_of_ble_eq_true rfl) dX3_spend_36 ⟨Nat.le_of_ble_eq_true rfl, Nat.le_of_ble_eq_true rfl⟩ (fun v w1 H locs hq hw => ?_)
            obtain ⟨r4, q36_0, rfl, rfl⟩ := hq
            have hw : lo_Wd X ([oX3 (a 0) (a 1) (a 2) (Pn Q), arN X (a 1) 6 b, oX0 (a 2) (a 3) (a 4) (a 5) (Px Q) (Pk Q), arI X (a 3) 20 (Pa Q), arI X (a 4) 20 (Pb Q), arI X (a 5) 20 (Pd Q)] ++ ((lsW b (PL Q)))) A9 s9.heap H locs := hw
            refine W.eq (g2 := F0 m9 39 ls [.int (iI r4)]) rfl ?_
            refine lo_if_ne (tgt := 46) E dX3_spend_39 (by decide) (by omega) (fun c5 => ?_) (fun c5 => ?_)
            · skip
              have hLi := hQL fi.toNat (by omega)
              have hb1 := hLi.1.2
              refine lv_iload_n Ex Eb dX3_spend_46 rfl (lv_at hl 4 rfl) ?_
              refine lv_aload_n Ex Eb dX3_spend_47 rfl (lv_at hl 1 rfl) ?_
              refine lo_get E hK hw huRX3 0 hf11 rfl 0 rfl rfl (by decide) (v := .ref (a 1)) rfl dX3_spend_48 ?_
              refine lv_iload Ex Eb dX3_spend_51 (lv_at hl 0 rfl) ?_
              refine lo_aldN E hK hw 1 rfl (by omega) dX3_spend_53 ?_
              refine lo_get E hK hw huRX2 1 hf78 rfl (6 + fi.toNat) (lsW_atE (k := 6) rfl (by omega)) rfl (by decide) (v := .int (iI (PL Q fi.toNat 1))) rfl dX3_spend_54 ?_
              refine lo_mmin E hl.1 hl81 hstmin hmath hcdmin (Nat.le_of_ble_eq_true rfl) (Nat.le_of_ble_eq_true rfl) (Nat.le_of_ble_eq_true rfl) (Nat.le_of_ble_eq_true rfl) (by omega) (by omega) dX3_spend_57 ?_
              refine lv_istore (lv' := [(6, .int (iI (min re (PL Q fi.toNat 1)))), (5, .int (iI fi)), (0, .ref (a 0)), (1, .int (iI x)), (2, .int (iI y)), (3, .int (iI re)), (4, .int (iI ix))]) Ex Eb dX3_spend_60 hl (by decide) rfl (fun ls hl => ?_)
              refine lv_aload_n Ex Eb dX3_spend_62 rfl (lv_at hl 2 rfl) ?_
              refine lv_iload Ex Eb dX3_spend_63 (lv_at hl 1 rfl) ?_
              refine lv_iload Ex Eb dX3_spend_65 (lv_at hl 0 rfl) ?_
              refine lv_iconst (v := iI 0) Ex Eb dX3_spend_67 rfl ?_
              refine lo_callV (q0 := 0) (rest := []) E hK hw (kX3_reduce l X a b Q fi (min re (PL Q fi.toNat 1)) 0 (by omega) (by omega) (by omega) (by omega) (by omega)) (cwV 3 E.2.2.2.2 gX3_spend_X3_reduce rfl rfl rfl (by decide +kernel) ⟨Nat.le_of_ble_eq_true rfl, Nat.le_of_ble_eq_true rfl⟩) rfl rfl [0, 1, 2, 3, 4, 5, 6, 7, 8, 9, 10, 11] rfl (by decide) hl.1 rfl rfl (Nat.le_of_ble_eq_true rfl) dX3_spend_68 ⟨Nat.le_of_ble_eq_true rfl, Nat.le_of_ble_eq_true rfl⟩ (fun v w1 H locs hq hw => ?_)
              obtain ⟨rfl, rfl⟩ := hq
              have hw : lo_Wd X ([oX3 (a 0) (a 1) (a 2) (Pn (plRed Q fi (min re (PL Q fi.toNat 1)) 0)), arN X (a 1) 6 b, oX0 (a 2) (a 3) (a 4) (a 5) (Px (plRed Q fi (min re (PL Q fi.toNat 1)) 0)) (Pk (plRed Q fi (min re (PL Q fi.toNat 1)) 0)), arI X (a 3) 20 (Pa (plRed Q fi (min re (PL Q fi.toNat 1)) 0)), arI X (a 4) 20 (Pb (plRed Q fi (min re (PL Q fi.toNat 1)) 0)), arI X (a 5) 20 (Pd (plRed Q fi (min re (PL Q fi.toNat 1)) 0))] ++ ((lsW b (PL (plRed Q fi (min re (PL Q fi.toNat 1)) 0))))) A9 s9.heap H locs := hw
              refine W.eq (g2 := F0 m9 71 ls []) rfl ?_
              refine lv_iload_n Ex Eb dX3_spend_71 rfl (lv_at hl 5 rfl) ?_
              refine lv_iload Ex Eb dX3_spend_72 (lv_at hl 0 rfl) ?_
              refine lo_isub E dX3_spend_74 ?_
              refine lv_istore_n (lv' := [(3, .int (iI (re - (min re (PL Q fi.toNat 1))))), (6, .int (iI (min re (PL Q fi.toNat 1)))), (5, .int (iI fi)), (0, .ref (a 0)), (1, .int (iI x)), (2, .int (iI y)), (4, .int (iI ix))]) Ex Eb dX3_spend_75 rfl hl (by decide) rfl (fun ls hl => ?_)
              refine lo_iinc (lv' := [(4, .int (iI (ix + 1))), (3, .int (iI (re - (min re (PL Q fi.toNat 1))))), (6, .int (iI (min re (PL Q fi.toNat 1)))), (5, .int (iI fi)), (0, .ref (a 0)), (1, .int (iI x)), (2, .int (iI y))]) E dX3_spend_76 hl (k := 6) rfl (by decide) rfl (fun ls hl => ?_)
              refine lv_goto (tgt := 5) Ex Eb dX3_spend_79 (by decide) ?_
              exact ih5 (plRed Q fi (min re (PL Q fi.toNat 1)) 0) (re - (min re (PL Q fi.toNat 1))) (ix + 1) (by omega) (by exact plRed_PI iv5_0 (by omega) (by omega) (by omega) (by omega) (by omega)) (by omega) (by omega) (by rw [← iv5_3, show (6 - ix).toNat = (6 - (ix + 1)).toNat + 1 by omega, spF_s (by omega) (by rw [← hfi]; omega), ← hfi]) _ _ _ hw (lv_sub hl [4, 5, 6, 1, 0] rfl)
            · skip
              refine lv_iload_n Ex Eb dX3_spend_42 rfl (lv_at hl 2 rfl) ?_
              refine lv_iload_n Ex Eb dX3_spend_43 rfl (lv_at hl 4 rfl) ?_
              refine lo_isub E dX3_spend_44 ?_
              exact lo_iret E hRt hLk hK hAe hw dX3_spend_45 rfl ⟨by rw [← iv5_3, show (6 - ix).toNat = (6 - (ix + 1)).toNat + 1 by omega, spF_n (by omega) (by rw [← hfi]; omega)], by rw [← iv5_3, show (6 - ix).toNat = (6 - (ix + 1)).toNat + 1 by omega, spF_n (by omega) (by rw [← hfi]; omega)]⟩
          · skip
            refine lv_aload_n Ex Eb dX3_spend_20 rfl (lv_at hl 0 rfl) ?_
            refine lo_callV (q0 := 0) (rest := []) E hK hw (kX3_firstByRate l X a b Q (by omega)) (cwV 0 E.2.2.2.2 gX3_spend_X3_firstByRate rfl rfl rfl (by decide +kernel) ⟨Nat.le_of_ble_eq_true rfl, Nat.le_of_ble_eq_true rfl⟩) rfl rfl [0, 1, 2, 3, 4, 5, 6, 7, 8, 9, 10, 11] rfl (by decide) hl.1 rfl rfl (Nat.le_of_ble_eq_true rfl) dX3_spend_21 ⟨Nat.le_of_ble_eq_true rfl, Nat.le_of_ble_eq_true rfl⟩ (fun v w1 H locs hq hw => ?_)
            obtain ⟨rfl, rfl⟩ := hq
            have hw : lo_Wd X ([oX3 (a 0) (a 1) (a 2) (Pn Q), arN X (a 1) 6 b, oX0 (a 2) (a 3) (a 4) (a 5) (Px Q) (Pk Q), arI X (a 3) 20 (Pa Q), arI X (a 4) 20 (Pb Q), arI X (a 5) 20 (Pd Q)] ++ ((lsW b (PL Q)))) A9 s9.heap H locs := hw
            refine W.eq (g2 := F0 m9 24 ls [.int (iI (dst (PL Q) (Pn Q).toNat))]) rfl ?_
            refine lo_topi (fun fi e_fi => ?_)
            refine lv_goto (tgt := 31) Ex Eb dX3_spend_24 (by decide) ?_
            have hfi : fi = pickL y Q := by rw [e_fi]; unfold pickL; first | (rw [if_pos (show y = 0 by omega)]) | (rw [if_neg (show y ≠ 0 by omega)])
            have hpk := pickL_r y iv5_0
            rw [← hfi] at hpk
            refine lv_istore (lv' := [(5, .int (iI fi)), (0, .ref (a 0)), (1, .int (iI x)), (2, .int (iI y)), (3, .int (iI re)), (4, .int (iI ix))]) Ex Eb dX3_spend_31 hl (by decide) rfl (fun ls hl => ?_)
            refine lv_aload_n Ex Eb dX3_spend_33 rfl (lv_at hl 1 rfl) ?_
            refine lv_iload Ex Eb dX3_spend_34 (lv_at hl 0 rfl) ?_
            refine lo_callV (q0 := 0) (rest := []) E hK hw (kX3_has l X a b Q fi (by omega) (by omega)) (cwV 1 E.2.2.2.2 gX3_spend_X3_has rfl rfl rfl (by decide +kernel) ⟨Nat.le_of_ble_eq_true rfl, Nat.le_of_ble_eq_true rfl⟩) rfl rfl [0, 1, 2, 3, 4, 5, 6, 7, 8, 9, 10, 11] rfl (by decide) hl.1 rfl rfl (Nat.le_of_ble_eq_true rfl) dX3_spend_36 ⟨Nat.le_of_ble_eq_true rfl, Nat.le_of_ble_eq_true rfl⟩ (fun v w1 H locs hq hw => ?_)
            obtain ⟨r6, q36_0, rfl, rfl⟩ := hq
            have hw : lo_Wd X ([oX3 (a 0) (a 1) (a 2) (Pn Q), arN X (a 1) 6 b, oX0 (a 2) (a 3) (a 4) (a 5) (Px Q) (Pk Q), arI X (a 3) 20 (Pa Q), arI X (a 4) 20 (Pb Q), arI X (a 5) 20 (Pd Q)] ++ ((lsW b (PL Q)))) A9 s9.heap H locs := hw
            refine W.eq (g2 := F0 m9 39 ls [.int (iI r6)]) rfl ?_
            refine lo_if_ne (tgt := 46) E dX3_spend_39 (by decide) (by omega) (fun c7 => ?_) (fun c7 => ?_)
            · skip
              have hLi := hQL fi.toNat (by omega)
              have hb1 := hLi.1.2
              refine lv_iload_n Ex Eb dX3_spend_46 rfl (lv_at hl 4 rfl) ?_
              refine lv_aload_n Ex Eb dX3_spend_47 rfl (lv_at hl 1 rfl) ?_
              refine lo_get E hK hw huRX3 0 hf11 rfl 0 rfl rfl (by decide) (v := .ref (a 1)) rfl dX3_spend_48 ?_
              refine lv_iload Ex Eb dX3_spend_51 (lv_at hl 0 rfl) ?_
              refine lo_aldN E hK hw 1 rfl (by omega) dX3_spend_53 ?_
              refine lo_get E hK hw huRX2 1 hf78 rfl (6 + fi.toNat) (lsW_atE (k := 6) rfl (by omega)) rfl (by decide) (v := .int (iI (PL Q fi.toNat 1))) rfl dX3_spend_54 ?_
              refine lo_mmin E hl.1 hl81 hstmin hmath hcdmin (Nat.le_of_ble_eq_true rfl) (Nat.le_of_ble_eq_true rfl) (Nat.le_of_ble_eq_true rfl) (Nat.le_of_ble_eq_true rfl) (by omega) (by omega) dX3_spend_57 ?_
              refine lv_istore (lv' := [(6, .int (iI (min re (PL Q fi.toNat 1)))), (5, .int (iI fi)), (0, .ref (a 0)), (1, .int (iI x)), (2, .int (iI y)), (3, .int (iI re)), (4, .int (iI ix))]) Ex Eb dX3_spend_60 hl (by decide) rfl (fun ls hl => ?_)
              refine lv_aload_n Ex Eb dX3_spend_62 rfl (lv_at hl 2 rfl) ?_
              refine lv_iload Ex Eb dX3_spend_63 (lv_at hl 1 rfl) ?_
              refine lv_iload Ex Eb dX3_spend_65 (lv_at hl 0 rfl) ?_
              refine lv_iconst (v := iI 0) Ex Eb dX3_spend_67 rfl ?_
              refine lo_callV (q0 := 0) (rest := []) E hK hw (kX3_reduce l X a b Q fi (min re (PL Q fi.toNat 1)) 0 (by omega) (by omega) (by omega) (by omega) (by omega)) (cwV 3 E.2.2.2.2 gX3_spend_X3_reduce rfl rfl rfl (by decide +kernel) ⟨Nat.le_of_ble_eq_true rfl, Nat.le_of_ble_eq_true rfl⟩) rfl rfl [0, 1, 2, 3, 4, 5, 6, 7, 8, 9, 10, 11] rfl (by decide) hl.1 rfl rfl (Nat.le_of_ble_eq_true rfl) dX3_spend_68 ⟨Nat.le_of_ble_eq_true rfl, Nat.le_of_ble_eq_true rfl⟩ (fun v w1 H locs hq hw => ?_)
              obtain ⟨rfl, rfl⟩ := hq
              have hw : lo_Wd X ([oX3 (a 0) (a 1) (a 2) (Pn (plRed Q fi (min re (PL Q fi.toNat 1)) 0)), arN X (a 1) 6 b, oX0 (a 2) (a 3) (a 4) (a 5) (Px (plRed Q fi (min re (PL Q fi.toNat 1)) 0)) (Pk (plRed Q fi (min re (PL Q fi.toNat 1)) 0)), arI X (a 3) 20 (Pa (plRed Q fi (min re (PL Q fi.toNat 1)) 0)), arI X (a 4) 20 (Pb (plRed Q fi (min re (PL Q fi.toNat 1)) 0)), arI X (a 5) 20 (Pd (plRed Q fi (min re (PL Q fi.toNat 1)) 0))] ++ ((lsW b (PL (plRed Q fi (min re (PL Q fi.toNat 1)) 0))))) A9 s9.heap H locs := hw
              refine W.eq (g2 := F0 m9 71 ls []) rfl ?_
              refine lv_iload_n Ex Eb dX3_spend_71 rfl (lv_at hl 5 rfl) ?_
              refine lv_iload Ex Eb dX3_spend_72 (lv_at hl 0 rfl) ?_
              refine lo_isub E dX3_spend_74 ?_
              refine lv_istore_n (lv' := [(3, .int (iI (re - (min re (PL Q fi.toNat 1))))), (6, .int (iI (min re (PL Q fi.toNat 1)))), (5, .int (iI fi)), (0, .ref (a 0)), (1, .int (iI x)), (2, .int (iI y)), (4, .int (iI ix))]) Ex Eb dX3_spend_75 rfl hl (by decide) rfl (fun ls hl => ?_)
              refine lo_iinc (lv' := [(4, .int (iI (ix + 1))), (3, .int (iI (re - (min re (PL Q fi.toNat 1))))), (6, .int (iI (min re (PL Q fi.toNat 1)))), (5, .int (iI fi)), (0, .ref (a 0)), (1, .int (iI x)), (2, .int (iI y))]) E dX3_spend_76 hl (k := 6) rfl (by decide) rfl (fun ls hl => ?_)
              refine lv_goto (tgt := 5) Ex Eb dX3_spend_79 (by decide) ?_
              exact ih5 (plRed Q fi (min re (PL Q fi.toNat 1)) 0) (re - (min re (PL Q fi.toNat 1))) (ix + 1) (by omega) (by exact plRed_PI iv5_0 (by omega) (by omega) (by omega) (by omega) (by omega)) (by omega) (by omega) (by rw [← iv5_3, show (6 - ix).toNat = (6 - (ix + 1)).toNat + 1 by omega, spF_s (by omega) (by rw [← hfi]; omega), ← hfi]) _ _ _ hw (lv_sub hl [4, 5, 6, 1, 0] rfl)
            · skip
              refine lv_iload_n Ex Eb dX3_spend_42 rfl (lv_at hl 2 rfl) ?_
              refine lv_iload_n Ex Eb dX3_spend_43 rfl (lv_at hl 4 rfl) ?_
              refine lo_isub E dX3_spend_44 ?_
              exact lo_iret E hRt hLk hK hAe hw dX3_spend_45 rfl ⟨by rw [← iv5_3, show (6 - ix).toNat = (6 - (ix + 1)).toNat + 1 by omega, spF_n (by omega) (by rw [← hfi]; omega)], by rw [← iv5_3, show (6 - ix).toNat = (6 - (ix + 1)).toNat + 1 by omega, spF_n (by omega) (by rw [← hfi]; omega)]⟩
  exact lp5 _ P x 0 (Nat.lt_succ_self _) (by exact hPI) (by omega) (by omega) (rfl) _ _ _ hw (lv_sub hl [2, 3, 4, 1, 0] rfl)
