set_option maxHeartbeats 4000000 in
set_option maxRecDepth 100000 in
theorem kX5_isPossible (l : Launch) (X : KX) (xc tg a1 a2 a3 : Nat) (en ex dp s1 s2 s3 kt ek eo : Int) (xt : Nat) (h : Nat) (L : Nat → Int) (c : Int) (hLI : LI L) (hc : c = 2 ∨ c = 4 ∨ c = 5 ∨ c = 6 ∨ c = 7) (hs : (c = 4 → 1 ≤ s2 ∧ s2 ≤ 9999999) ∧ (c = 7 → 1 ≤ s2 ∧ s2 ≤ 60)) : CM l X yX5_isPossible wsX5_isPossible ({ frames := 2, cells := 0, slots := 0, locals := 40 }) [.ref xc, .int (iI c), .ref h] ([oX5 xc xt tg en ex dp a1 a2 a3 s1 s2 s3 kt ek eo, oX2 h (L 0) (L 1) (L 2) (L 3) (L 4) (L 5) (L 6) (L 7) (L 8) (L 9)]) (fun v9 w9 => ∃ z : Int, ((z = 1 ∧ PSB c L s2) ∨ (z = 0 ∧ ¬ PSB c L s2)) ∧ v9 = some (.int (iI z)) ∧ w9 = [oX5 xc xt tg en ex dp a1 a2 a3 s1 s2 s3 kt ek eo, oX2 h (L 0) (L 1) (L 2) (L 3) (L 4) (L 5) (L 6) (L 7) (L 8) (L 9)]) 0 0 := by
  refine lo_enter (cc := cX5_isPossible) (maxL := 3) (ret := (some .boolean)) (lv := [(0, .ref xc), (1, .int (iI c)), (2, .ref h)]) (by decide) rfl rfl (Nat.le_of_ble_eq_true rfl) ?_
  intro p9 e9 s9 m9 bl9 me9 c9 A9 ls hAe E hRt hLk hK hl hw
  have Ex := E.1
  have Eb := E.2.1
  have huRX5 : ∀ w ∈ u_ws RX5 TX5 14, w ∈ wsX5_isPossible := by decide +kernel
  have hf35 : (Cond.fieldLink RX5 35 "LoanSchedule$Script" "second" "I").before _ s9 = true := E.2.2.2.2 _ (List.mem_of_getElem? (i := 1) rfl)
  obtain ⟨⟨hb0, hb1⟩, ⟨hr0, hr1⟩, ⟨hc0, hc1⟩, ⟨hm0, hm1⟩, ⟨hi0, hi1⟩, ⟨hk0, hk1⟩, hop, hcl⟩ := id hLI
  refine lv_iload_n Ex Eb dX5_isPossible_0 rfl (lv_at hl 1 rfl) ?_
  by_cases ts1_4 : c = 4
  · refine lo_tswI (off := 31) (tgt := 32) E dX5_isPossible_1 (by omega) (by omega) (by rw [ts1_4]; rfl) (by decide) ?_
    refine lv_aload_n Ex Eb dX5_isPossible_32 rfl (lv_at hl 2 rfl) ?_
    refine lv_aload_n Ex Eb dX5_isPossible_33 rfl (lv_at hl 0 rfl) ?_
    refine lo_get E hK hw huRX5 9 hf35 rfl 0 rfl rfl (by decide) (v := .int (iI s2)) rfl dX5_isPossible_34 ?_
    refine lo_callV (q0 := 1) (rest := []) E hK hw (kX2_canReduce l X h L s2 (by omega) (by omega)) (cwV 1 E.2.2.2.2 gX5_isPossible_X2_canReduce rfl rfl rfl (by decide +kernel) ⟨Nat.le_of_ble_eq_true rfl, Nat.le_of_ble_eq_true rfl⟩) rfl rfl [1] rfl (by decide) hl.1 rfl rfl (Nat.le_of_ble_eq_true rfl) dX5_isPossible_37 ⟨Nat.le_of_ble_eq_true rfl, Nat.le_of_ble_eq_true rfl⟩ (fun v w1 H locs hq hw => ?_)
    obtain ⟨r1, q37_0, rfl, rfl⟩ := hq
    have hw : lo_Wd X ([oX5 xc xt tg en ex dp a1 a2 a3 s1 s2 s3 kt ek eo, oX2 h (L 0) (L 1) (L 2) (L 3) (L 4) (L 5) (L 6) (L 7) (L 8) (L 9)]) A9 s9.heap H locs := hw
    refine W.eq (g2 := F0 m9 40 ls [.int (iI r1)]) rfl ?_
    exact lo_zret E hRt hLk hK hAe hw dX5_isPossible_40 (nar_b (by omega)) rfl ⟨r1, (by unfold PSB; omega), rfl, rfl⟩
  by_cases ts1_5 : c = 5
  · refine lo_tswI (off := 40) (tgt := 41) E dX5_isPossible_1 (by omega) (by omega) (by rw [ts1_5]; rfl) (by decide) ?_
    refine lv_aload_n Ex Eb dX5_isPossible_41 rfl (lv_at hl 2 rfl) ?_
    refine lo_callV (q0 := 1) (rest := []) E hK hw (kX2_canDefer l X h L (by omega) (by omega) (by omega) (by omega) (by omega) (by omega) (by omega)) (cwV 0 E.2.2.2.2 gX5_isPossible_X2_canDefer rfl rfl rfl (by decide +kernel) ⟨Nat.le_of_ble_eq_true rfl, Nat.le_of_ble_eq_true rfl⟩) rfl rfl [1] rfl (by decide) hl.1 rfl rfl (Nat.le_of_ble_eq_true rfl) dX5_isPossible_42 ⟨Nat.le_of_ble_eq_true rfl, Nat.le_of_ble_eq_true rfl⟩ (fun v w1 H locs hq hw => ?_)
    obtain ⟨r2, q42_0, rfl, rfl⟩ := hq
    have hw : lo_Wd X ([oX5 xc xt tg en ex dp a1 a2 a3 s1 s2 s3 kt ek eo, oX2 h (L 0) (L 1) (L 2) (L 3) (L 4) (L 5) (L 6) (L 7) (L 8) (L 9)]) A9 s9.heap H locs := hw
    refine W.eq (g2 := F0 m9 45 ls [.int (iI r2)]) rfl ?_
    exact lo_zret E hRt hLk hK hAe hw dX5_isPossible_45 (nar_b (by omega)) rfl ⟨r2, (by unfold PSB; omega), rfl, rfl⟩
  by_cases ts1_6 : c = 6
  · refine lo_tswI (off := 54) (tgt := 55) E dX5_isPossible_1 (by omega) (by omega) (by rw [ts1_6]; rfl) (by decide) ?_
    refine lv_aload_n Ex Eb dX5_isPossible_55 rfl (lv_at hl 2 rfl) ?_
    refine lo_callV (q0 := 1) (rest := []) E hK hw (kX2_isRunning l X h L (by omega)) (cwV 0 E.2.2.2.2 gX5_isPossible_X2_isRunning rfl rfl rfl (by decide +kernel) ⟨Nat.le_of_ble_eq_true rfl, Nat.le_of_ble_eq_true rfl⟩) rfl rfl [1] rfl (by decide) hl.1 rfl rfl (Nat.le_of_ble_eq_true rfl) dX5_isPossible_56 ⟨Nat.le_of_ble_eq_true rfl, Nat.le_of_ble_eq_true rfl⟩ (fun v w1 H locs hq hw => ?_)
    obtain ⟨r3, q56_0, rfl, rfl⟩ := hq
    have hw : lo_Wd X ([oX5 xc xt tg en ex dp a1 a2 a3 s1 s2 s3 kt ek eo, oX2 h (L 0) (L 1) (L 2) (L 3) (L 4) (L 5) (L 6) (L 7) (L 8) (L 9)]) A9 s9.heap H locs := hw
    refine W.eq (g2 := F0 m9 59 ls [.int (iI r3)]) rfl ?_
    exact lo_zret E hRt hLk hK hAe hw dX5_isPossible_59 (nar_b (by omega)) rfl ⟨r3, (by unfold PSB; omega), rfl, rfl⟩
  by_cases ts1_7 : c = 7
  · refine lo_tswI (off := 45) (tgt := 46) E dX5_isPossible_1 (by omega) (by omega) (by rw [ts1_7]; rfl) (by decide) ?_
    refine lv_aload_n Ex Eb dX5_isPossible_46 rfl (lv_at hl 2 rfl) ?_
    refine lv_aload_n Ex Eb dX5_isPossible_47 rfl (lv_at hl 0 rfl) ?_
    refine lo_get E hK hw huRX5 9 hf35 rfl 0 rfl rfl (by decide) (v := .int (iI s2)) rfl dX5_isPossible_48 ?_
    refine lo_callV (q0 := 1) (rest := []) E hK hw (kX2_canLengthen l X h L s2 (by omega) (by omega) (by omega)) (cwV 1 E.2.2.2.2 gX5_isPossible_X2_canLengthen rfl rfl rfl (by decide +kernel) ⟨Nat.le_of_ble_eq_true rfl, Nat.le_of_ble_eq_true rfl⟩) rfl rfl [1] rfl (by decide) hl.1 rfl rfl (Nat.le_of_ble_eq_true rfl) dX5_isPossible_51 ⟨Nat.le_of_ble_eq_true rfl, Nat.le_of_ble_eq_true rfl⟩ (fun v w1 H locs hq hw => ?_)
    obtain ⟨r4, q51_0, rfl, rfl⟩ := hq
    have hw : lo_Wd X ([oX5 xc xt tg en ex dp a1 a2 a3 s1 s2 s3 kt ek eo, oX2 h (L 0) (L 1) (L 2) (L 3) (L 4) (L 5) (L 6) (L 7) (L 8) (L 9)]) A9 s9.heap H locs := hw
    refine W.eq (g2 := F0 m9 54 ls [.int (iI r4)]) rfl ?_
    exact lo_zret E hRt hLk hK hAe hw dX5_isPossible_54 (nar_b (by omega)) rfl ⟨r4, (by unfold PSB; omega), rfl, rfl⟩
  refine lo_tswO (tgt := 55) E dX5_isPossible_1 (by omega) (by omega) (by decide) ?_
  refine lv_aload_n Ex Eb dX5_isPossible_55 rfl (lv_at hl 2 rfl) ?_
  refine lo_callV (q0 := 1) (rest := []) E hK hw (kX2_isRunning l X h L (by omega)) (cwV 0 E.2.2.2.2 gX5_isPossible_X2_isRunning rfl rfl rfl (by decide +kernel) ⟨Nat.le_of_ble_eq_true rfl, Nat.le_of_ble_eq_true rfl⟩) rfl rfl [1] rfl (by decide) hl.1 rfl rfl (Nat.le_of_ble_eq_true rfl) dX5_isPossible_56 ⟨Nat.le_of_ble_eq_true rfl, Nat.le_of_ble_eq_true rfl⟩ (fun v w1 H locs hq hw => ?_)
  obtain ⟨r5, q56_0, rfl, rfl⟩ := hq
  have hw : lo_Wd X ([oX5 xc xt tg en ex dp a1 a2 a3 s1 s2 s3 kt ek eo, oX2 h (L 0) (L 1) (L 2) (L 3) (L 4) (L 5) (L 6) (L 7) (L 8) (L 9)]) A9 s9.heap H locs := hw
  refine W.eq (g2 := F0 m9 59 ls [.int (iI r5)]) rfl ?_
  exact lo_zret E hRt hLk hK hAe hw dX5_isPossible_59 (nar_b (by omega)) rfl ⟨r5, (by unfold PSB; omega), rfl, rfl⟩
set_option maxHeartbeats 4000000 in
set_option maxRecDepth 100000 in
theorem kX5_change (l : Launch) (X : KX) (xc a1 a2 a3 : Nat) (en ex dp s1 s2 s3 kt ek eo : Int) (xt : Nat) (a b : Nat → Nat) (P : PT) (c : Int) (hPI : PI P) (hc : c = 2 ∨ c = 4 ∨ c = 5 ∨ c = 6 ∨ c = 7) (hs : (c = 4 → (1 ≤ s2 ∧ s2 ≤ 9999999) ∧ (kt = 0 ∨ kt = 1)) ∧ (c = 6 → 0 ≤ s2 ∧ s2 ≤ 3000) ∧ (c = 7 → 1 ≤ s2 ∧ s2 ≤ 60)) (hi : 0 ≤ s1 ∧ s1 < Pn P) (hps : PSB c (PL P s1.toNat) s2) : CM l X yX5_change wsX5_change ({ frames := 4, cells := 0, slots := 0, locals := 106 }) [.ref xc, .int (iI c), .ref (b s1.toNat)] ([oX5 xc xt (a 0) en ex dp a1 a2 a3 s1 s2 s3 kt ek eo, oX3 (a 0) (a 1) (a 2) (Pn P), arN X (a 1) 6 b, oX0 (a 2) (a 3) (a 4) (a 5) (Px P) (Pk P), arI X (a 3) 20 (Pa P), arI X (a 4) 20 (Pb P), arI X (a 5) 20 (Pd P)] ++ ((lsW b (PL P)))) (fun v9 w9 => ∃ Q : PT, (CHG c P s1 s2 kt Q) ∧ v9 = none ∧ w9 = [oX5 xc xt (a 0) en ex dp a1 a2 a3 s1 s2 s3 kt ek eo, oX3 (a 0) (a 1) (a 2) (Pn Q), arN X (a 1) 6 b, oX0 (a 2) (a 3) (a 4) (a 5) (Px Q) (Pk Q), arI X (a 3) 20 (Pa Q), arI X (a 4) 20 (Pb Q), arI X (a 5) 20 (Pd Q)] ++ ((lsW b (PL Q)))) 0 0 := by
  refine lo_enter (cc := cX5_change) (maxL := 3) (ret := none) (lv := [(0, .ref xc), (1, .int (iI c)), (2, .ref (b s1.toNat))]) (by decide) rfl rfl (Nat.le_of_ble_eq_true rfl) ?_
  intro p9 e9 s9 m9 bl9 me9 c9 A9 ls hAe E hRt hLk hK hl hw
  have Ex := E.1
  have Eb := E.2.1
  have huRX5 : ∀ w ∈ u_ws RX5 TX5 14, w ∈ wsX5_change := by decide +kernel
  have hf59 : (Cond.fieldLink RX5 59 "LoanSchedule$Script" "target" "LLoanSchedule$Plan;").before _ s9 = true := E.2.2.2.2 _ (List.mem_of_getElem? (i := 1) rfl)
  have hf32 : (Cond.fieldLink RX5 32 "LoanSchedule$Script" "first" "I").before _ s9 = true := E.2.2.2.2 _ (List.mem_of_getElem? (i := 2) rfl)
  have hf35 : (Cond.fieldLink RX5 35 "LoanSchedule$Script" "second" "I").before _ s9 = true := E.2.2.2.2 _ (List.mem_of_getElem? (i := 3) rfl)
  have hf41 : (Cond.fieldLink RX5 41 "LoanSchedule$Script" "keepTerm" "Z").before _ s9 = true := E.2.2.2.2 _ (List.mem_of_getElem? (i := 4) rfl)
  have huRX2 : ∀ w ∈ u_ws RX2 TX2 10, w ∈ wsX5_change := by decide +kernel
  have hf207 : (Cond.fieldLink RX5 207 "LoanSchedule$Loan" "monthsLeft" "I").before _ s9 = true := E.2.2.2.2 _ (List.mem_of_getElem? (i := 5) rfl)
  have hf213 : (Cond.fieldLink RX5 213 "LoanSchedule$Loan" "rate" "I").before _ s9 = true := E.2.2.2.2 _ (List.mem_of_getElem? (i := 6) rfl)
  obtain ⟨⟨hn0, hn1⟩, ⟨hx0, hx1⟩, ⟨hk0, hk1⟩, hL⟩ := id hPI
  have hLi := hL (s1).toNat (by omega)
  obtain ⟨⟨hb0, hb1⟩, ⟨hr0, hr1⟩, ⟨hc0, hc1⟩, ⟨hm0, hm1⟩, ⟨hi0, hi1⟩, ⟨hs0, hs1⟩, hop, hcl⟩ := id hLi
  obtain ⟨ps1, ps4, ps5, ps7⟩ := id hps
  have hfw : fW (PL P s1.toNat 1) (PL P s1.toNat 2) (PL P s1.toNat 5) = PL P s1.toNat 1 + fI (PL P s1.toNat 1) (PL P s1.toNat 2) (PL P s1.toNat 5) := rfl
  refine lv_iload_n Ex Eb dX5_change_0 rfl (lv_at hl 1 rfl) ?_
  by_cases ts1_2 : c = 2
  · refine lo_tswI (off := 35) (tgt := 36) E dX5_change_1 (by omega) (by omega) (by rw [ts1_2]; rfl) (by decide) ?_
    refine lv_aload_n Ex Eb dX5_change_36 rfl (lv_at hl 0 rfl) ?_
    refine lo_get E hK hw huRX5 1 hf59 rfl 0 rfl rfl (by decide) (v := .ref (a 0)) rfl dX5_change_37 ?_
    refine lv_aload_n Ex Eb dX5_change_40 rfl (lv_at hl 0 rfl) ?_
    refine lo_get E hK hw huRX5 8 hf32 rfl 0 rfl rfl (by decide) (v := .int (iI s1)) rfl dX5_change_41 ?_
    have hw : lo_Wd X (([oX5 xc xt (a 0) en ex dp a1 a2 a3 s1 s2 s3 kt ek eo]) ++ ([oX3 (a 0) (a 1) (a 2) (Pn P), arN X (a 1) 6 b, oX0 (a 2) (a 3) (a 4) (a 5) (Px P) (Pk P), arI X (a 3) 20 (Pa P), arI X (a 4) 20 (Pb P), arI X (a 5) 20 (Pd P)] ++ ((lsW b (PL P))))) A9 s9.heap _ _ := hw
    refine lo_callV (q0 := 1) (rest := []) E hK hw (kX3_settle l X a b P s1 (hPI) (hi) (ps1)) (cwV 1 E.2.2.2.2 gX5_change_X3_settle rfl rfl rfl (by decide +kernel) ⟨Nat.le_of_ble_eq_true rfl, Nat.le_of_ble_eq_true rfl⟩) rfl rfl (List.range' 1 12) (lo_ps_tail (pre := [oX5 xc xt (a 0) en ex dp a1 a2 a3 s1 s2 s3 kt ek eo]) rfl rfl) (by decide +kernel) hl.1 rfl rfl (Nat.le_of_ble_eq_true rfl) dX5_change_44 ⟨Nat.le_of_ble_eq_true rfl, Nat.le_of_ble_eq_true rfl⟩ (fun v w1 H locs hq hw => ?_)
    obtain ⟨rfl, rfl⟩ := hq
    have hw := lo_cast (lo_sets_tail (n := 12) (k := 1) (pre := [oX5 xc xt (a 0) en ex dp a1 a2 a3 s1 s2 s3 kt ek eo]) (w0 := [oX3 (a 0) (a 1) (a 2) (Pn P), arN X (a 1) 6 b, oX0 (a 2) (a 3) (a 4) (a 5) (Px P) (Pk P), arI X (a 3) 20 (Pa P), arI X (a 4) 20 (Pb P), arI X (a 5) 20 (Pd P)] ++ ((lsW b (PL P)))) (w1 := [oX3 (a 0) (a 1) (a 2) (Pn (plPay P s1)), arN X (a 1) 6 b, oX0 (a 2) (a 3) (a 4) (a 5) (Px (plPay P s1)) (Pk (plPay P s1)), arI X (a 3) 20 (Pa (plPay P s1)), arI X (a 4) 20 (Pb (plPay P s1)), arI X (a 5) 20 (Pd (plPay P s1))] ++ ((lsW b (PL (plPay P s1))))) rfl rfl rfl) hw
    have hw : lo_Wd X ([oX5 xc xt (a 0) en ex dp a1 a2 a3 s1 s2 s3 kt ek eo, oX3 (a 0) (a 1) (a 2) (Pn (plPay P s1)), arN X (a 1) 6 b, oX0 (a 2) (a 3) (a 4) (a 5) (Px (plPay P s1)) (Pk (plPay P s1)), arI X (a 3) 20 (Pa (plPay P s1)), arI X (a 4) 20 (Pb (plPay P s1)), arI X (a 5) 20 (Pd (plPay P s1))] ++ ((lsW b (PL (plPay P s1))))) A9 s9.heap H locs := hw
    refine W.eq (g2 := F0 m9 47 ls [.int (iI (dueL (PL P s1.toNat)))]) rfl ?_
    refine lv_pop Ex Eb dX5_change_47 rfl ?_
    refine lv_goto (tgt := 115) Ex Eb dX5_change_48 (by decide) ?_
    exact lo_vret E hRt hLk hK hAe hw dX5_change_115 rfl ⟨plPay P s1, (⟨fun h => by first | (exfalso; omega) | rfl, fun h => by first | (exfalso; omega) | rfl, fun h => by first | (exfalso; omega) | rfl, fun h => by first | (exfalso; omega) | rfl, fun h => by first | (exfalso; omega) | rfl⟩), rfl, rfl⟩
  by_cases ts1_3 : c = 3
  · exact absurd ts1_3 (by omega)
  by_cases ts1_4 : c = 4
  · refine lo_tswI (off := 50) (tgt := 51) E dX5_change_1 (by omega) (by omega) (by rw [ts1_4]; rfl) (by decide) ?_
    refine lv_aload_n Ex Eb dX5_change_51 rfl (lv_at hl 0 rfl) ?_
    refine lo_get E hK hw huRX5 1 hf59 rfl 0 rfl rfl (by decide) (v := .ref (a 0)) rfl dX5_change_52 ?_
    refine lv_aload_n Ex Eb dX5_change_55 rfl (lv_at hl 0 rfl) ?_
    refine lo_get E hK hw huRX5 8 hf32 rfl 0 rfl rfl (by decide) (v := .int (iI s1)) rfl dX5_change_56 ?_
    refine lv_aload_n Ex Eb dX5_change_59 rfl (lv_at hl 0 rfl) ?_
    refine lo_get E hK hw huRX5 9 hf35 rfl 0 rfl rfl (by decide) (v := .int (iI s2)) rfl dX5_change_60 ?_
    refine lv_aload_n Ex Eb dX5_change_63 rfl (lv_at hl 0 rfl) ?_
    refine lo_get E hK hw huRX5 11 hf41 rfl 0 rfl rfl (by decide) (v := .int (iI kt)) rfl dX5_change_64 ?_
    have hw : lo_Wd X (([oX5 xc xt (a 0) en ex dp a1 a2 a3 s1 s2 s3 kt ek eo]) ++ ([oX3 (a 0) (a 1) (a 2) (Pn P), arN X (a 1) 6 b, oX0 (a 2) (a 3) (a 4) (a 5) (Px P) (Pk P), arI X (a 3) 20 (Pa P), arI X (a 4) 20 (Pb P), arI X (a 5) 20 (Pd P)] ++ ((lsW b (PL P))))) A9 s9.heap _ _ := hw
    refine lo_callV (q0 := 1) (rest := []) E hK hw (kX3_reduce l X a b P s1 s2 kt (hPI) (hi) (ps1) (by omega) (by omega)) (cwV 3 E.2.2.2.2 gX5_change_X3_reduce rfl rfl rfl (by decide +kernel) ⟨Nat.le_of_ble_eq_true rfl, Nat.le_of_ble_eq_true rfl⟩) rfl rfl (List.range' 1 12) (lo_ps_tail (pre := [oX5 xc xt (a 0) en ex dp a1 a2 a3 s1 s2 s3 kt ek eo]) rfl rfl) (by decide +kernel) hl.1 rfl rfl (Nat.le_of_ble_eq_true rfl) dX5_change_67 ⟨Nat.le_of_ble_eq_true rfl, Nat.le_of_ble_eq_true rfl⟩ (fun v w1 H locs hq hw => ?_)
    obtain ⟨rfl, rfl⟩ := hq
    have hw := lo_cast (lo_sets_tail (n := 12) (k := 1) (pre := [oX5 xc xt (a 0) en ex dp a1 a2 a3 s1 s2 s3 kt ek eo]) (w0 := [oX3 (a 0) (a 1) (a 2) (Pn P), arN X (a 1) 6 b, oX0 (a 2) (a 3) (a 4) (a 5) (Px P) (Pk P), arI X (a 3) 20 (Pa P), arI X (a 4) 20 (Pb P), arI X (a 5) 20 (Pd P)] ++ ((lsW b (PL P)))) (w1 := [oX3 (a 0) (a 1) (a 2) (Pn (plRed P s1 s2 kt)), arN X (a 1) 6 b, oX0 (a 2) (a 3) (a 4) (a 5) (Px (plRed P s1 s2 kt)) (Pk (plRed P s1 s2 kt)), arI X (a 3) 20 (Pa (plRed P s1 s2 kt)), arI X (a 4) 20 (Pb (plRed P s1 s2 kt)), arI X (a 5) 20 (Pd (plRed P s1 s2 kt))] ++ ((lsW b (PL (plRed P s1 s2 kt))))) rfl rfl rfl) hw
    have hw : lo_Wd X ([oX5 xc xt (a 0) en ex dp a1 a2 a3 s1 s2 s3 kt ek eo, oX3 (a 0) (a 1) (a 2) (Pn (plRed P s1 s2 kt)), arN X (a 1) 6 b, oX0 (a 2) (a 3) (a 4) (a 5) (Px (plRed P s1 s2 kt)) (Pk (plRed P s1 s2 kt)), arI X (a 3) 20 (Pa (plRed P s1 s2 kt)), arI X (a 4) 20 (Pb (plRed P s1 s2 kt)), arI X (a 5) 20 (Pd (plRed P s1 s2 kt))] ++ ((lsW b (PL (plRed P s1 s2 kt))))) A9 s9.heap H locs := hw
    refine W.eq (g2 := F0 m9 70 ls []) rfl ?_
    refine lv_goto (tgt := 115) Ex Eb dX5_change_70 (by decide) ?_
    exact lo_vret E hRt hLk hK hAe hw dX5_change_115 rfl ⟨plRed P s1 s2 kt, (⟨fun h => by first | (exfalso; omega) | rfl, fun h => by first | (exfalso; omega) | rfl, fun h => by first | (exfalso; omega) | rfl, fun h => by first | (exfalso; omega) | rfl, fun h => by first | (exfalso; omega) | rfl⟩), rfl, rfl⟩
  by_cases ts1_5 : c = 5
  · refine lo_tswI (off := 72) (tgt := 73) E dX5_change_1 (by omega) (by omega) (by rw [ts1_5]; rfl) (by decide) ?_
    refine lv_aload_n Ex Eb dX5_change_73 rfl (lv_at hl 2 rfl) ?_
    refine lo_callV (q0 := (7 + s1.toNat)) (rest := []) E hK hw (kX2_defer l X (b s1.toNat) (PL P s1.toNat) (hLi) ((ps5 (by omega)).2)) (cwV 0 E.2.2.2.2 gX5_change_X2_defer rfl rfl rfl (by decide +kernel) ⟨Nat.le_of_ble_eq_true rfl, Nat.le_of_ble_eq_true rfl⟩) (lsW_atE (k := 7) rfl (by omega)) rfl [7 + s1.toNat] (lo_ps_cons (lsW_atE (k := 7) rfl (by omega)) lo_ps_nil) (by simp [va_nd]) hl.1 rfl rfl (Nat.le_of_ble_eq_true rfl) dX5_change_74 ⟨Nat.le_of_ble_eq_true rfl, Nat.le_of_ble_eq_true rfl⟩ (fun v w1 H locs hq hw => ?_)
    obtain ⟨rfl, rfl⟩ := hq
    have hw := lo_cast (lsW_cE1 (k := 7) rfl (by omega) (defL (PL P s1.toNat))) hw
    have hw : lo_Wd X ([oX5 xc xt (a 0) en ex dp a1 a2 a3 s1 s2 s3 kt ek eo, oX3 (a 0) (a 1) (a 2) (Pn P), arN X (a 1) 6 b, oX0 (a 2) (a 3) (a 4) (a 5) (Px P) (Pk P), arI X (a 3) 20 (Pa P), arI X (a 4) 20 (Pb P), arI X (a 5) 20 (Pd P)] ++ ((lsW b (uF (PL P) s1.toNat (defL (PL P s1.toNat)))))) A9 s9.heap H locs := hw
    refine W.eq (g2 := F0 m9 77 ls [.int (iI (fI (PL P s1.toNat 1) (PL P s1.toNat 2) (PL P s1.toNat 5)))]) rfl ?_
    refine lv_pop Ex Eb dX5_change_77 rfl ?_
    refine lv_goto (tgt := 115) Ex Eb dX5_change_78 (by decide) ?_
    exact lo_vret E hRt hLk hK hAe hw dX5_change_115 rfl ⟨(Pn P, uF (PL P) s1.toNat (defL (PL P s1.toNat)), Px P, Pk P, Pa P, Pb P, Pd P), (⟨fun h => by first | (exfalso; omega) | rfl, fun h => by first | (exfalso; omega) | rfl, fun h => by first | (exfalso; omega) | rfl, fun h => by first | (exfalso; omega) | rfl, fun h => by first | (exfalso; omega) | rfl⟩), rfl, rfl⟩
  by_cases ts1_6 : c = 6
  · refine lo_tswI (off := 80) (tgt := 81) E dX5_change_1 (by omega) (by omega) (by rw [ts1_6]; rfl) (by decide) ?_
    refine lv_aload_n Ex Eb dX5_change_81 rfl (lv_at hl 2 rfl) ?_
    refine lv_aload_n Ex Eb dX5_change_82 rfl (lv_at hl 0 rfl) ?_
    refine lo_get E hK hw huRX5 9 hf35 rfl 0 rfl rfl (by decide) (v := .int (iI s2)) rfl dX5_change_83 ?_
    refine lv_aload_n Ex Eb dX5_change_86 rfl (lv_at hl 2 rfl) ?_
    refine lo_get E hK hw huRX2 3 hf207 rfl (7 + s1.toNat) (lsW_atE (k := 7) rfl (by omega)) rfl (by decide) (v := .int (iI (PL P s1.toNat 3))) rfl dX5_change_87 ?_
    refine lo_callV (q0 := (7 + s1.toNat)) (rest := []) E hK hw (kX2_setTerms l X (b s1.toNat) (PL P s1.toNat) s2 (PL P s1.toNat 3) (hLi) (by omega) (by omega)) (cwV 2 E.2.2.2.2 gX5_change_X2_setTerms rfl rfl rfl (by decide +kernel) ⟨Nat.le_of_ble_eq_true rfl, Nat.le_of_ble_eq_true rfl⟩) (lsW_atE (k := 7) rfl (by omega)) rfl [7 + s1.toNat] (lo_ps_cons (lsW_atE (k := 7) rfl (by omega)) lo_ps_nil) (by simp [va_nd]) hl.1 rfl rfl (Nat.le_of_ble_eq_true rfl) dX5_change_90 ⟨Nat.le_of_ble_eq_true rfl, Nat.le_of_ble_eq_true rfl⟩ (fun v w1 H locs hq hw => ?_)
    obtain ⟨rfl, rfl⟩ := hq
    have hw := lo_cast (lsW_cE1 (k := 7) rfl (by omega) (setL (PL P s1.toNat) s2 (PL P s1.toNat 3))) hw
    have hw : lo_Wd X ([oX5 xc xt (a 0) en ex dp a1 a2 a3 s1 s2 s3 kt ek eo, oX3 (a 0) (a 1) (a 2) (Pn P), arN X (a 1) 6 b, oX0 (a 2) (a 3) (a 4) (a 5) (Px P) (Pk P), arI X (a 3) 20 (Pa P), arI X (a 4) 20 (Pb P), arI X (a 5) 20 (Pd P)] ++ ((lsW b (uF (PL P) s1.toNat (setL (PL P s1.toNat) s2 (PL P s1.toNat 3)))))) A9 s9.heap H locs := hw
    refine W.eq (g2 := F0 m9 93 ls [.int (iI (setL (PL P s1.toNat) s2 (PL P s1.toNat 3) 4))]) rfl ?_
    refine lv_pop Ex Eb dX5_change_93 rfl ?_
    refine lv_goto (tgt := 115) Ex Eb dX5_change_94 (by decide) ?_
    exact lo_vret E hRt hLk hK hAe hw dX5_change_115 rfl ⟨(Pn P, uF (PL P) s1.toNat (setL (PL P s1.toNat) s2 (PL P s1.toNat 3)), Px P, Pk P, Pa P, Pb P, Pd P), (⟨fun h => by first | (exfalso; omega) | rfl, fun h => by first | (exfalso; omega) | rfl, fun h => by first | (exfalso; omega) | rfl, fun h => by first | (exfalso; omega) | rfl, fun h => by first | (exfalso; omega) | rfl⟩), rfl, rfl⟩
  refine lo_tswO (tgt := 97) E dX5_change_1 (by omega) (by omega) (by decide) ?_
  refine lv_aload_n Ex Eb dX5_change_97 rfl (lv_at hl 2 rfl) ?_
  refine lv_aload_n Ex Eb dX5_change_98 rfl (lv_at hl 2 rfl) ?_
  refine lo_get E hK hw huRX2 2 hf213 rfl (7 + s1.toNat) (lsW_atE (k := 7) rfl (by omega)) rfl (by decide) (v := .int (iI (PL P s1.toNat 2))) rfl dX5_change_99 ?_
  refine lv_aload_n Ex Eb dX5_change_102 rfl (lv_at hl 2 rfl) ?_
  refine lo_get E hK hw huRX2 3 hf207 rfl (7 + s1.toNat) (lsW_atE (k := 7) rfl (by omega)) rfl (by decide) (v := .int (iI (PL P s1.toNat 3))) rfl dX5_change_103 ?_
  refine lv_aload_n Ex Eb dX5_change_106 rfl (lv_at hl 0 rfl) ?_
  refine lo_get E hK hw huRX5 9 hf35 rfl 0 rfl rfl (by decide) (v := .int (iI s2)) rfl dX5_change_107 ?_
  refine lo_iadd E dX5_change_110 ?_
  refine lo_callV (q0 := (7 + s1.toNat)) (rest := []) E hK hw (kX2_setTerms l X (b s1.toNat) (PL P s1.toNat) (PL P s1.toNat 2) ((PL P s1.toNat 3) + s2) (hLi) (by omega) (by omega)) (cwV 2 E.2.2.2.2 gX5_change_X2_setTerms rfl rfl rfl (by decide +kernel) ⟨Nat.le_of_ble_eq_true rfl, Nat.le_of_ble_eq_true rfl⟩) (lsW_atE (k := 7) rfl (by omega)) rfl [7 + s1.toNat] (lo_ps_cons (lsW_atE (k := 7) rfl (by omega)) lo_ps_nil) (by simp [va_nd]) hl.1 rfl rfl (Nat.le_of_ble_eq_true rfl) dX5_change_111 ⟨Nat.le_of_ble_eq_true rfl, Nat.le_of_ble_eq_true rfl⟩ (fun v w1 H locs hq hw => ?_)
  obtain ⟨rfl, rfl⟩ := hq
  have hw := lo_cast (lsW_cE1 (k := 7) rfl (by omega) (setL (PL P s1.toNat) (PL P s1.toNat 2) ((PL P s1.toNat 3) + s2))) hw
  have hw : lo_Wd X ([oX5 xc xt (a 0) en ex dp a1 a2 a3 s1 s2 s3 kt ek eo, oX3 (a 0) (a 1) (a 2) (Pn P), arN X (a 1) 6 b, oX0 (a 2) (a 3) (a 4) (a 5) (Px P) (Pk P), arI X (a 3) 20 (Pa P), arI X (a 4) 20 (Pb P), arI X (a 5) 20 (Pd P)] ++ ((lsW b (uF (PL P) s1.toNat (setL (PL P s1.toNat) (PL P s1.toNat 2) ((PL P s1.toNat 3) + s2)))))) A9 s9.heap H locs := hw
  refine W.eq (g2 := F0 m9 114 ls [.int (iI (setL (PL P s1.toNat) (PL P s1.toNat 2) ((PL P s1.toNat 3) + s2) 4))]) rfl ?_
  refine lv_pop Ex Eb dX5_change_114 rfl ?_
  exact lo_vret E hRt hLk hK hAe hw dX5_change_115 rfl ⟨(Pn P, uF (PL P) s1.toNat (setL (PL P s1.toNat) (PL P s1.toNat 2) ((PL P s1.toNat 3) + s2)), Px P, Pk P, Pa P, Pb P, Pd P), (⟨fun h => by first | (exfalso; omega) | rfl, fun h => by first | (exfalso; omega) | rfl, fun h => by first | (exfalso; omega) | rfl, fun h => by first | (exfalso; omega) | rfl, fun h => by first | (exfalso; omega) | rfl⟩), rfl, rfl⟩
set_option maxHeartbeats 4000000 in
set_option maxRecDepth 100000 in
theorem kX5_execute (l : Launch) (X : KX) (xc a1 a2 a3 : Nat) (en ex dp s1 s2 s3 kt eo : Int) (xt tt : Nat) (tn tp ts tk tv : Int) (a b : Nat → Nat) (P : PT) (w : Nat → Int) (y : PAR) (c : Int) (hPW : PW P w) (hc : 1 ≤ c ∧ c ≤ 7) (hy : PRG c (Pn P) y) (h1 : c ≠ 3 → s1 = y.1) (h2 : c = 1 ∨ c = 4 ∨ c = 6 ∨ c = 7 → s2 = y.2.1) (h3 : c = 1 → s3 = y.2.2.1) (h4 : c = 4 → kt = y.2.2.2.1) (hex : 0 ≤ ex ∧ ex ≤ 300) : CM l X yX5_execute wsX5_execute ({ frames := 5, cells := 0, slots := 0, locals := 128 }) [.ref xc, .int (iI c)] ([oX5 xc xt (a 0) en ex dp a1 a2 a3 s1 s2 s3 kt 0 eo, oX6 xt tt tn tp ts tk tv, oX3 (a 0) (a 1) (a 2) (Pn P), arN X (a 1) 6 b, oX0 (a 2) (a 3) (a 4) (a 5) (Px P) (Pk P), arI X (a 3) 20 (Pa P), arI X (a 4) 20 (Pb P), arI X (a 5) 20 (Pd P)] ++ ((lsW b (PL P)))) (fun v9 w9 => ∃ Q : PT, ∃ ke : Int, ∃ ko : Int, ((∃ u, exe c y w = some u ∧ PW Q u ∧ ke = 0 ∧ ko = eo) ∨ (exe c y w = none ∧ Q = P ∧ ke = 3 ∧ ko = ts)) ∧ (ke = 0 ∨ ke = 3) ∧ v9 = none ∧ w9 = [oX5 xc xt (a 0) en (ex + 1) dp a1 a2 a3 s1 s2 s3 kt ke ko, oX6 xt tt tn tp ts tk tv, oX3 (a 0) (a 1) (a 2) (Pn Q), arN X (a 1) 6 b, oX0 (a 2) (a 3) (a 4) (a 5) (Px Q) (Pk Q), arI X (a 3) 20 (Pa Q), arI X (a 4) 20 (Pb Q), arI X (a 5) 20 (Pd Q)] ++ ((lsW b (PL Q)))) 0 0 := by
  refine lo_enter (cc := cX5_execute) (maxL := 2) (ret := none) (lv := [(0, .ref xc), (1, .int (iI c))]) (by decide) rfl rfl (Nat.le_of_ble_eq_true rfl) ?_
  intro p9 e9 s9 m9 bl9 me9 c9 A9 ls hAe E hRt hLk hK hl hw
  have Ex := E.1
  have Eb := E.2.1
  have huRX5 : ∀ w ∈ u_ws RX5 TX5 14, w ∈ wsX5_execute := by decide +kernel
  have hf15 : (Cond.fieldLink RX5 15 "LoanSchedule$Script" "executed" "I").before _ s9 = true := E.2.2.2.2 _ (List.mem_of_getElem? (i := 1) rfl)
  have hf59 : (Cond.fieldLink RX5 59 "LoanSchedule$Script" "target" "LLoanSchedule$Plan;").before _ s9 = true := E.2.2.2.2 _ (List.mem_of_getElem? (i := 2) rfl)
  have hf32 : (Cond.fieldLink RX5 32 "LoanSchedule$Script" "first" "I").before _ s9 = true := E.2.2.2.2 _ (List.mem_of_getElem? (i := 3) rfl)
  have huRX3 : ∀ w ∈ u_ws RX3 TX3 3, w ∈ wsX5_execute := by decide +kernel
  have hf171 : (Cond.fieldLink RX5 171 "LoanSchedule$Plan" "loans" "[LLoanSchedule$Loan;").before _ s9 = true := E.2.2.2.2 _ (List.mem_of_getElem? (i := 6) rfl)
  have hf35 : (Cond.fieldLink RX5 35 "LoanSchedule$Script" "second" "I").before _ s9 = true := E.2.2.2.2 _ (List.mem_of_getElem? (i := 4) rfl)
  have hf38 : (Cond.fieldLink RX5 38 "LoanSchedule$Script" "third" "I").before _ s9 = true := E.2.2.2.2 _ (List.mem_of_getElem? (i := 5) rfl)
  have hPI := hPW.1
  obtain ⟨⟨hn0, hn1⟩, ⟨hx0, hx1⟩, ⟨hk0, hk1⟩, hL⟩ := id hPI
  obtain ⟨y1, y2, y4, y6, y7⟩ := id hy
  refine lv_aload_n Ex Eb dX5_execute_0 rfl (lv_at hl 0 rfl) ?_
  refine lv_dup Ex Eb dX5_execute_1 rfl ?_
  refine lo_get E hK hw huRX5 3 hf15 rfl 0 rfl rfl (by decide) (v := .int (iI ex)) rfl dX5_execute_2 ?_
  refine lv_iconst (v := iI 1) Ex Eb dX5_execute_5 rfl ?_
  refine lo_iadd E dX5_execute_6 ?_
  refine lo_put E hK hw huRX5 tyX5 tyX5_ok nmX5 3 hf15 rfl 0 rfl rfl (by decide) rfl rfl rfl rfl (Nat.le_of_ble_eq_true rfl) (ws' := [oX5 xc xt (a 0) en (ex + 1) dp a1 a2 a3 s1 s2 s3 kt 0 eo, oX6 xt tt tn tp ts tk tv, oX3 (a 0) (a 1) (a 2) (Pn P), arN X (a 1) 6 b, oX0 (a 2) (a 3) (a 4) (a 5) (Px P) (Pk P), arI X (a 3) 20 (Pa P), arI X (a 4) 20 (Pb P), arI X (a 5) 20 (Pd P)] ++ ((lsW b (PL P)))) rfl dX5_execute_7 (fun H locs hw => ?_)
  refine lv_iload_n Ex Eb dX5_execute_10 rfl (lv_at hl 1 rfl) ?_
  refine lv_iconst (v := iI 3) Ex Eb dX5_execute_11 rfl ?_
  refine lo_icmp_ne (tgt := 26) E dX5_execute_12 (by decide) (by omega) (by omega) (fun c1 => ?_) (fun c1 => ?_)
  · skip
    refine lv_iload_n Ex Eb dX5_execute_26 rfl (lv_at hl 1 rfl) ?_
    refine lv_iconst (v := iI 1) Ex Eb dX5_execute_27 rfl ?_
    refine lo_icmp_ne (tgt := 63) E dX5_execute_28 (by decide) (by omega) (by omega) (fun c2 => ?_) (fun c2 => ?_)
    · skip
      refine lv_iload_n Ex Eb dX5_execute_63 rfl (lv_at hl 1 rfl) ?_
      refine lv_iconst (v := iI 1) Ex Eb dX5_execute_64 rfl ?_
      refine lo_icmp_eq (tgt := 122) E dX5_execute_65 (by decide) (by omega) (by omega) (fun c3 => ?_) (fun c3 => ?_)
      · skip
        refine lv_aload_n Ex Eb dX5_execute_122 rfl (lv_at hl 0 rfl) ?_
        refine lv_iconst (v := iI 3) Ex Eb dX5_execute_123 rfl ?_
        refine lo_callV (q0 := 0) (rest := []) E hK hw (kX5_fail l X xc (a 0) a1 a2 a3 en (ex + 1) dp s1 s2 s3 kt 0 eo xt tt tn tp ts tk tv 3 ) (cwV 1 E.2.2.2.2 gX5_execute_X5_fail rfl rfl rfl (by decide +kernel) ⟨Nat.le_of_ble_eq_true rfl, Nat.le_of_ble_eq_true rfl⟩) rfl rfl [0, 1] rfl (by decide) hl.1 rfl rfl (Nat.le_of_ble_eq_true rfl) dX5_execute_124 ⟨Nat.le_of_ble_eq_true rfl, Nat.le_of_ble_eq_true rfl⟩ (fun v w1 H locs hq hw => ?_)
        obtain ⟨rfl, rfl⟩ := hq
        have hw : lo_Wd X ([oX5 xc xt (a 0) en (ex + 1) dp a1 a2 a3 s1 s2 s3 kt 3 ts, oX6 xt tt tn tp ts tk tv, oX3 (a 0) (a 1) (a 2) (Pn P), arN X (a 1) 6 b, oX0 (a 2) (a 3) (a 4) (a 5) (Px P) (Pk P), arI X (a 3) 20 (Pa P), arI X (a 4) 20 (Pb P), arI X (a 5) 20 (Pd P)] ++ ((lsW b (PL P)))) A9 s9.heap H locs := hw
        refine W.eq (g2 := F0 m9 127 ls []) rfl ?_
        exact lo_vret E hRt hLk hK hAe hw dX5_execute_127 rfl ⟨P, 3, ts, (by first | exact Or.inl (EXF_chg hPW hc5 hy g1 (fun h => h2 (by omega)) h4 (wdY q96_0 (by omega)) q116_0) | exact Or.inl (EXF_new (by omega) hPW (by omega) hy g1 g2 g3) | exact Or.inr ⟨EX_no (s := s2) hPW hc5 (by omega) (fun h => h2 (by omega)) (by rw [← g1]; exact wdN q96_0 (by omega)), rfl, rfl, rfl⟩ | exact Or.inl (EXF_all (by omega) hPW) | exact Or.inr ⟨EXF_full (by omega) hPW (by omega), rfl, rfl, rfl⟩ | (exfalso; omega)), (by omega), rfl, rfl⟩
      · skip
        have hc5 : c = 2 ∨ c = 4 ∨ c = 5 ∨ c = 6 ∨ c = 7 := by omega
        have y9 := y2 (by omega) (by omega)
        have g1 := h1 (by omega)
        have hLi := hL s1.toNat (by omega)
        refine lv_aload_n Ex Eb dX5_execute_68 rfl (lv_at hl 0 rfl) ?_
        refine lo_get E hK hw huRX5 1 hf59 rfl 0 rfl rfl (by decide) (v := .ref (a 0)) rfl dX5_execute_69 ?_
        refine lv_aload_n Ex Eb dX5_execute_72 rfl (lv_at hl 0 rfl) ?_
        refine lo_get E hK hw huRX5 8 hf32 rfl 0 rfl rfl (by decide) (v := .int (iI s1)) rfl dX5_execute_73 ?_
        have hw : lo_Wd X (([oX5 xc xt (a 0) en (ex + 1) dp a1 a2 a3 s1 s2 s3 kt 0 eo, oX6 xt tt tn tp ts tk tv]) ++ ([oX3 (a 0) (a 1) (a 2) (Pn P), arN X (a 1) 6 b, oX0 (a 2) (a 3) (a 4) (a 5) (Px P) (Pk P), arI X (a 3) 20 (Pa P), arI X (a 4) 20 (Pb P), arI X (a 5) 20 (Pd P)] ++ ((lsW b (PL P))))) A9 s9.heap _ _ := hw
        refine lo_callV (q0 := 2) (rest := []) E hK hw (kX3_has l X a b P s1 (by omega) (by omega)) (cwV 1 E.2.2.2.2 gX5_execute_X3_has rfl rfl rfl (by decide +kernel) ⟨Nat.le_of_ble_eq_true rfl, Nat.le_of_ble_eq_true rfl⟩) rfl rfl (List.range' 2 12) (lo_ps_tail (pre := [oX5 xc xt (a 0) en (ex + 1) dp a1 a2 a3 s1 s2 s3 kt 0 eo, oX6 xt tt tn tp ts tk tv]) rfl rfl) (by decide +kernel) hl.1 rfl rfl (Nat.le_of_ble_eq_true rfl) dX5_execute_76 ⟨Nat.le_of_ble_eq_true rfl, Nat.le_of_ble_eq_true rfl⟩ (fun v w1 H locs hq hw => ?_)
        obtain ⟨r4, q76_0, rfl, rfl⟩ := hq
        have hw := lo_cast (lo_sets_tail (n := 12) (k := 2) (pre := [oX5 xc xt (a 0) en (ex + 1) dp a1 a2 a3 s1 s2 s3 kt 0 eo, oX6 xt tt tn tp ts tk tv]) (w0 := [oX3 (a 0) (a 1) (a 2) (Pn P), arN X (a 1) 6 b, oX0 (a 2) (a 3) (a 4) (a 5) (Px P) (Pk P), arI X (a 3) 20 (Pa P), arI X (a 4) 20 (Pb P), arI X (a 5) 20 (Pd P)] ++ ((lsW b (PL P)))) (w1 := [oX3 (a 0) (a 1) (a 2) (Pn P), arN X (a 1) 6 b, oX0 (a 2) (a 3) (a 4) (a 5) (Px P) (Pk P), arI X (a 3) 20 (Pa P), arI X (a 4) 20 (Pb P), arI X (a 5) 20 (Pd P)] ++ ((lsW b (PL P)))) rfl rfl rfl) hw
        have hw : lo_Wd X ([oX5 xc xt (a 0) en (ex + 1) dp a1 a2 a3 s1 s2 s3 kt 0 eo, oX6 xt tt tn tp ts tk tv, oX3 (a 0) (a 1) (a 2) (Pn P), arN X (a 1) 6 b, oX0 (a 2) (a 3) (a 4) (a 5) (Px P) (Pk P), arI X (a 3) 20 (Pa P), arI X (a 4) 20 (Pb P), arI X (a 5) 20 (Pd P)] ++ ((lsW b (PL P)))) A9 s9.heap H locs := hw
        refine W.eq (g2 := F0 m9 79 ls [.int (iI r4)]) rfl ?_
        refine lo_if_eq (tgt := 122) E dX5_execute_79 (by decide) (by omega) (fun c5 => ?_) (fun c5 => ?_)
        · skip
          refine lv_aload_n Ex Eb dX5_execute_122 rfl (lv_at hl 0 rfl) ?_
          refine lv_iconst (v := iI 3) Ex Eb dX5_execute_123 rfl ?_
          refine lo_callV (q0 := 0) (rest := []) E hK hw (kX5_fail l X xc (a 0) a1 a2 a3 en (ex + 1) dp s1 s2 s3 kt 0 eo xt tt tn tp ts tk tv 3 ) (cwV 1 E.2.2.2.2 gX5_execute_X5_fail rfl rfl rfl (by decide +kernel) ⟨Nat.le_of_ble_eq_true rfl, Nat.le_of_ble_eq_true rfl⟩) rfl rfl [0, 1] rfl (by decide) hl.1 rfl rfl (Nat.le_of_ble_eq_true rfl) dX5_execute_124 ⟨Nat.le_of_ble_eq_true rfl, Nat.le_of_ble_eq_true rfl⟩ (fun v w1 H locs hq hw => ?_)
          obtain ⟨rfl, rfl⟩ := hq
          have hw : lo_Wd X ([oX5 xc xt (a 0) en (ex + 1) dp a1 a2 a3 s1 s2 s3 kt 3 ts, oX6 xt tt tn tp ts tk tv, oX3 (a 0) (a 1) (a 2) (Pn P), arN X (a 1) 6 b, oX0 (a 2) (a 3) (a 4) (a 5) (Px P) (Pk P), arI X (a 3) 20 (Pa P), arI X (a 4) 20 (Pb P), arI X (a 5) 20 (Pd P)] ++ ((lsW b (PL P)))) A9 s9.heap H locs := hw
          refine W.eq (g2 := F0 m9 127 ls []) rfl ?_
          exact lo_vret E hRt hLk hK hAe hw dX5_execute_127 rfl ⟨P, 3, ts, (by first | exact Or.inl (EXF_chg hPW hc5 hy g1 (fun h => h2 (by omega)) h4 (wdY q96_0 (by omega)) q116_0) | exact Or.inl (EXF_new (by omega) hPW (by omega) hy g1 g2 g3) | exact Or.inr ⟨EX_no (s := s2) hPW hc5 (by omega) (fun h => h2 (by omega)) (by rw [← g1]; exact wdN q96_0 (by omega)), rfl, rfl, rfl⟩ | exact Or.inl (EXF_all (by omega) hPW) | exact Or.inr ⟨EXF_full (by omega) hPW (by omega), rfl, rfl, rfl⟩ | (exfalso; omega)), (by omega), rfl, rfl⟩
        · skip
          refine lv_aload_n Ex Eb dX5_execute_82 rfl (lv_at hl 0 rfl) ?_
          refine lv_iload_n Ex Eb dX5_execute_83 rfl (lv_at hl 1 rfl) ?_
          refine lv_aload_n Ex Eb dX5_execute_84 rfl (lv_at hl 0 rfl) ?_
          refine lo_get E hK hw huRX5 1 hf59 rfl 0 rfl rfl (by decide) (v := .ref (a 0)) rfl dX5_execute_85 ?_
          refine lo_get E hK hw huRX3 0 hf171 rfl 2 rfl rfl (by decide) (v := .ref (a 1)) rfl dX5_execute_88 ?_
          refine lv_aload_n Ex Eb dX5_execute_91 rfl (lv_at hl 0 rfl) ?_
          refine lo_get E hK hw huRX5 8 hf32 rfl 0 rfl rfl (by decide) (v := .int (iI s1)) rfl dX5_execute_92 ?_
          refine lo_aldN E hK hw 3 rfl (by omega) dX5_execute_95 ?_
          refine lo_callV (q0 := 0) (rest := []) E hK hw (kX5_isPossible l X xc (a 0) a1 a2 a3 en (ex + 1) dp s1 s2 s3 kt 0 eo xt (b s1.toNat) (PL P s1.toNat) c (hLi) (hc5) (by omega)) (cwV 2 E.2.2.2.2 gX5_execute_X5_isPossible rfl rfl rfl (by decide +kernel) ⟨Nat.le_of_ble_eq_true rfl, Nat.le_of_ble_eq_true rfl⟩) rfl rfl [0, 8 + s1.toNat] (lo_ps_cons rfl (lo_ps_cons (lsW_atE (k := 8) rfl (by omega)) lo_ps_nil)) (by simp [va_nd]; try omega) hl.1 rfl rfl (Nat.le_of_ble_eq_true rfl) dX5_execute_96 ⟨Nat.le_of_ble_eq_true rfl, Nat.le_of_ble_eq_true rfl⟩ (fun v w1 H locs hq hw => ?_)
          obtain ⟨z6, q96_0, rfl, rfl⟩ := hq
          have hw := lo_cast (lsW_k (k := 8) (ps := [0]) (w1 := [oX5 xc xt (a 0) en (ex + 1) dp a1 a2 a3 s1 s2 s3 kt 0 eo]) rfl (by omega) (by decide) rfl rfl) hw
          have hw : lo_Wd X ([oX5 xc xt (a 0) en (ex + 1) dp a1 a2 a3 s1 s2 s3 kt 0 eo, oX6 xt tt tn tp ts tk tv, oX3 (a 0) (a 1) (a 2) (Pn P), arN X (a 1) 6 b, oX0 (a 2) (a 3) (a 4) (a 5) (Px P) (Pk P), arI X (a 3) 20 (Pa P), arI X (a 4) 20 (Pb P), arI X (a 5) 20 (Pd P)] ++ ((lsW b (PL P)))) A9 s9.heap H locs := hw
          refine W.eq (g2 := F0 m9 99 ls [.int (iI z6)]) rfl ?_
          refine lo_if_eq (tgt := 122) E dX5_execute_99 (by decide) (by omega) (fun c7 => ?_) (fun c7 => ?_)
          · skip
            refine lv_aload_n Ex Eb dX5_execute_122 rfl (lv_at hl 0 rfl) ?_
            refine lv_iconst (v := iI 3) Ex Eb dX5_execute_123 rfl ?_
            refine lo_callV (q0 := 0) (rest := []) E hK hw (kX5_fail l X xc (a 0) a1 a2 a3 en (ex + 1) dp s1 s2 s3 kt 0 eo xt tt tn tp ts tk tv 3 ) (cwV 1 E.2.2.2.2 gX5_execute_X5_fail rfl rfl rfl (by decide +kernel) ⟨Nat.le_of_ble_eq_true rfl, Nat.le_of_ble_eq_true rfl⟩) rfl rfl [0, 1] rfl (by decide) hl.1 rfl rfl (Nat.le_of_ble_eq_true rfl) dX5_execute_124 ⟨Nat.le_of_ble_eq_true rfl, Nat.le_of_ble_eq_true rfl⟩ (fun v w1 H locs hq hw => ?_)
            obtain ⟨rfl, rfl⟩ := hq
            have hw : lo_Wd X ([oX5 xc xt (a 0) en (ex + 1) dp a1 a2 a3 s1 s2 s3 kt 3 ts, oX6 xt tt tn tp ts tk tv, oX3 (a 0) (a 1) (a 2) (Pn P), arN X (a 1) 6 b, oX0 (a 2) (a 3) (a 4) (a 5) (Px P) (Pk P), arI X (a 3) 20 (Pa P), arI X (a 4) 20 (Pb P), arI X (a 5) 20 (Pd P)] ++ ((lsW b (PL P)))) A9 s9.heap H locs := hw
            refine W.eq (g2 := F0 m9 127 ls []) rfl ?_
            exact lo_vret E hRt hLk hK hAe hw dX5_execute_127 rfl ⟨P, 3, ts, (by first | exact Or.inl (EXF_chg hPW hc5 hy g1 (fun h => h2 (by omega)) h4 (wdY q96_0 (by omega)) q116_0) | exact Or.inl (EXF_new (by omega) hPW (by omega) hy g1 g2 g3) | exact Or.inr ⟨EX_no (s := s2) hPW hc5 (by omega) (fun h => h2 (by omega)) (by rw [← g1]; exact wdN q96_0 (by omega)), rfl, rfl, rfl⟩ | exact Or.inl (EXF_all (by omega) hPW) | exact Or.inr ⟨EXF_full (by omega) hPW (by omega), rfl, rfl, rfl⟩ | (exfalso; omega)), (by omega), rfl, rfl⟩
          · skip
            refine lv_aload_n Ex Eb dX5_execute_102 rfl (lv_at hl 0 rfl) ?_
            refine lv_iload_n Ex Eb dX5_execute_103 rfl (lv_at hl 1 rfl) ?_
            refine lv_aload_n Ex Eb dX5_execute_104 rfl (lv_at hl 0 rfl) ?_
            refine lo_get E hK hw huRX5 1 hf59 rfl 0 rfl rfl (by decide) (v := .ref (a 0)) rfl dX5_execute_105 ?_
            refine lo_get E hK hw huRX3 0 hf171 rfl 2 rfl rfl (by decide) (v := .ref (a 1)) rfl dX5_execute_108 ?_
            refine lv_aload_n Ex Eb dX5_execute_111 rfl (lv_at hl 0 rfl) ?_
            refine lo_get E hK hw huRX5 8 hf32 rfl 0 rfl rfl (by decide) (v := .int (iI s1)) rfl dX5_execute_112 ?_
            refine lo_aldN E hK hw 3 rfl (by omega) dX5_execute_115 ?_
            refine lo_callV (q0 := 0) (rest := []) E hK hw (kX5_change l X xc a1 a2 a3 en (ex + 1) dp s1 s2 s3 kt 0 eo xt a b P c (hPI) (hc5) (by omega) (by omega) (wdY q96_0 (by omega))) (cwV 2 E.2.2.2.2 gX5_execute_X5_change rfl rfl rfl (by decide +kernel) ⟨Nat.le_of_ble_eq_true rfl, Nat.le_of_ble_eq_true rfl⟩) rfl rfl [0, 2, 3, 4, 5, 6, 7, 8, 9, 10, 11, 12, 13] rfl (by decide) hl.1 rfl rfl (Nat.le_of_ble_eq_true rfl) dX5_execute_116 ⟨Nat.le_of_ble_eq_true rfl, Nat.le_of_ble_eq_true rfl⟩ (fun v w1 H locs hq hw => ?_)
            obtain ⟨Q8, q116_0, rfl, rfl⟩ := hq
            have hw : lo_Wd X ([oX5 xc xt (a 0) en (ex + 1) dp a1 a2 a3 s1 s2 s3 kt 0 eo, oX6 xt tt tn tp ts tk tv, oX3 (a 0) (a 1) (a 2) (Pn Q8), arN X (a 1) 6 b, oX0 (a 2) (a 3) (a 4) (a 5) (Px Q8) (Pk Q8), arI X (a 3) 20 (Pa Q8), arI X (a 4) 20 (Pb Q8), arI X (a 5) 20 (Pd Q8)] ++ ((lsW b (PL Q8)))) A9 s9.heap H locs := hw
            refine W.eq (g2 := F0 m9 119 ls []) rfl ?_
            refine lv_goto (tgt := 127) Ex Eb dX5_execute_119 (by decide) ?_
            exact lo_vret E hRt hLk hK hAe hw dX5_execute_127 rfl ⟨Q8, 0, eo, (by first | exact Or.inl (EXF_chg hPW hc5 hy g1 (fun h => h2 (by omega)) h4 (wdY q96_0 (by omega)) q116_0) | exact Or.inl (EXF_new (by omega) hPW (by omega) hy g1 g2 g3) | exact Or.inr ⟨EX_no (s := s2) hPW hc5 (by omega) (fun h => h2 (by omega)) (by rw [← g1]; exact wdN q96_0 (by omega)), rfl, rfl, rfl⟩ | exact Or.inl (EXF_all (by omega) hPW) | exact Or.inr ⟨EXF_full (by omega) hPW (by omega), rfl, rfl, rfl⟩ | (exfalso; omega)), (by omega), rfl, rfl⟩
    · skip
      refine lv_aload_n Ex Eb dX5_execute_31 rfl (lv_at hl 0 rfl) ?_
      refine lo_get E hK hw huRX5 1 hf59 rfl 0 rfl rfl (by decide) (v := .ref (a 0)) rfl dX5_execute_32 ?_
      have hw : lo_Wd X (([oX5 xc xt (a 0) en (ex + 1) dp a1 a2 a3 s1 s2 s3 kt 0 eo, oX6 xt tt tn tp ts tk tv]) ++ ([oX3 (a 0) (a 1) (a 2) (Pn P), arN X (a 1) 6 b, oX0 (a 2) (a 3) (a 4) (a 5) (Px P) (Pk P), arI X (a 3) 20 (Pa P), arI X (a 4) 20 (Pb P), arI X (a 5) 20 (Pd P)] ++ ((lsW b (PL P))))) A9 s9.heap _ _ := hw
      refine lo_callV (q0 := 2) (rest := []) E hK hw (kX3_hasRoom l X a b P (by omega)) (cwV 0 E.2.2.2.2 gX5_execute_X3_hasRoom rfl rfl rfl (by decide +kernel) ⟨Nat.le_of_ble_eq_true rfl, Nat.le_of_ble_eq_true rfl⟩) rfl rfl (List.range' 2 12) (lo_ps_tail (pre := [oX5 xc xt (a 0) en (ex + 1) dp a1 a2 a3 s1 s2 s3 kt 0 eo, oX6 xt tt tn tp ts tk tv]) rfl rfl) (by decide +kernel) hl.1 rfl rfl (Nat.le_of_ble_eq_true rfl) dX5_execute_35 ⟨Nat.le_of_ble_eq_true rfl, Nat.le_of_ble_eq_true rfl⟩ (fun v w1 H locs hq hw => ?_)
      obtain ⟨r9, q35_0, rfl, rfl⟩ := hq
      have hw := lo_cast (lo_sets_tail (n := 12) (k := 2) (pre := [oX5 xc xt (a 0) en (ex + 1) dp a1 a2 a3 s1 s2 s3 kt 0 eo, oX6 xt tt tn tp ts tk tv]) (w0 := [oX3 (a 0) (a 1) (a 2) (Pn P), arN X (a 1) 6 b, oX0 (a 2) (a 3) (a 4) (a 5) (Px P) (Pk P), arI X (a 3) 20 (Pa P), arI X (a 4) 20 (Pb P), arI X (a 5) 20 (Pd P)] ++ ((lsW b (PL P)))) (w1 := [oX3 (a 0) (a 1) (a 2) (Pn P), arN X (a 1) 6 b, oX0 (a 2) (a 3) (a 4) (a 5) (Px P) (Pk P), arI X (a 3) 20 (Pa P), arI X (a 4) 20 (Pb P), arI X (a 5) 20 (Pd P)] ++ ((lsW b (PL P)))) rfl rfl rfl) hw
      have hw : lo_Wd X ([oX5 xc xt (a 0) en (ex + 1) dp a1 a2 a3 s1 s2 s3 kt 0 eo, oX6 xt tt tn tp ts tk tv, oX3 (a 0) (a 1) (a 2) (Pn P), arN X (a 1) 6 b, oX0 (a 2) (a 3) (a 4) (a 5) (Px P) (Pk P), arI X (a 3) 20 (Pa P), arI X (a 4) 20 (Pb P), arI X (a 5) 20 (Pd P)] ++ ((lsW b (PL P)))) A9 s9.heap H locs := hw
      refine W.eq (g2 := F0 m9 38 ls [.int (iI r9)]) rfl ?_
      refine lo_if_eq (tgt := 63) E dX5_execute_38 (by decide) (by omega) (fun c10 => ?_) (fun c10 => ?_)
      · skip
        refine lv_iload_n Ex Eb dX5_execute_63 rfl (lv_at hl 1 rfl) ?_
        refine lv_iconst (v := iI 1) Ex Eb dX5_execute_64 rfl ?_
        refine lo_icmp_eq (tgt := 122) E dX5_execute_65 (by decide) (by omega) (by omega) (fun c11 => ?_) (fun c11 => ?_)
        · skip
          refine lv_aload_n Ex Eb dX5_execute_122 rfl (lv_at hl 0 rfl) ?_
          refine lv_iconst (v := iI 3) Ex Eb dX5_execute_123 rfl ?_
          refine lo_callV (q0 := 0) (rest := []) E hK hw (kX5_fail l X xc (a 0) a1 a2 a3 en (ex + 1) dp s1 s2 s3 kt 0 eo xt tt tn tp ts tk tv 3 ) (cwV 1 E.2.2.2.2 gX5_execute_X5_fail rfl rfl rfl (by decide +kernel) ⟨Nat.le_of_ble_eq_true rfl, Nat.le_of_ble_eq_true rfl⟩) rfl rfl [0, 1] rfl (by decide) hl.1 rfl rfl (Nat.le_of_ble_eq_true rfl) dX5_execute_124 ⟨Nat.le_of_ble_eq_true rfl, Nat.le_of_ble_eq_true rfl⟩ (fun v w1 H locs hq hw => ?_)
          obtain ⟨rfl, rfl⟩ := hq
          have hw : lo_Wd X ([oX5 xc xt (a 0) en (ex + 1) dp a1 a2 a3 s1 s2 s3 kt 3 ts, oX6 xt tt tn tp ts tk tv, oX3 (a 0) (a 1) (a 2) (Pn P), arN X (a 1) 6 b, oX0 (a 2) (a 3) (a 4) (a 5) (Px P) (Pk P), arI X (a 3) 20 (Pa P), arI X (a 4) 20 (Pb P), arI X (a 5) 20 (Pd P)] ++ ((lsW b (PL P)))) A9 s9.heap H locs := hw
          refine W.eq (g2 := F0 m9 127 ls []) rfl ?_
          exact lo_vret E hRt hLk hK hAe hw dX5_execute_127 rfl ⟨P, 3, ts, (by first | exact Or.inl (EXF_chg hPW hc5 hy g1 (fun h => h2 (by omega)) h4 (wdY q96_0 (by omega)) q116_0) | exact Or.inl (EXF_new (by omega) hPW (by omega) hy g1 g2 g3) | exact Or.inr ⟨EX_no (s := s2) hPW hc5 (by omega) (fun h => h2 (by omega)) (by rw [← g1]; exact wdN q96_0 (by omega)), rfl, rfl, rfl⟩ | exact Or.inl (EXF_all (by omega) hPW) | exact Or.inr ⟨EXF_full (by omega) hPW (by omega), rfl, rfl, rfl⟩ | (exfalso; omega)), (by omega), rfl, rfl⟩
        · skip
          have hc5 : c = 2 ∨ c = 4 ∨ c = 5 ∨ c = 6 ∨ c = 7 := by omega
          have y9 := y2 (by omega) (by omega)
          have g1 := h1 (by omega)
          have hLi := hL s1.toNat (by omega)
          refine lv_aload_n Ex Eb dX5_execute_68 rfl (lv_at hl 0 rfl) ?_
          refine lo_get E hK hw huRX5 1 hf59 rfl 0 rfl rfl (by decide) (v := .ref (a 0)) rfl dX5_execute_69 ?_
          refine lv_aload_n Ex Eb dX5_execute_72 rfl (lv_at hl 0 rfl) ?_
          refine lo_get E hK hw huRX5 8 hf32 rfl 0 rfl rfl (by decide) (v := .int (iI s1)) rfl dX5_execute_73 ?_
          have hw : lo_Wd X (([oX5 xc xt (a 0) en (ex + 1) dp a1 a2 a3 s1 s2 s3 kt 0 eo, oX6 xt tt tn tp ts tk tv]) ++ ([oX3 (a 0) (a 1) (a 2) (Pn P), arN X (a 1) 6 b, oX0 (a 2) (a 3) (a 4) (a 5) (Px P) (Pk P), arI X (a 3) 20 (Pa P), arI X (a 4) 20 (Pb P), arI X (a 5) 20 (Pd P)] ++ ((lsW b (PL P))))) A9 s9.heap _ _ := hw
          refine lo_callV (q0 := 2) (rest := []) E hK hw (kX3_has l X a b P s1 (by omega) (by omega)) (cwV 1 E.2.2.2.2 gX5_execute_X3_has rfl rfl rfl (by decide +kernel) ⟨Nat.le_of_ble_eq_true rfl, Nat.le_of_ble_eq_true rfl⟩) rfl rfl (List.range' 2 12) (lo_ps_tail (pre := [oX5 xc xt (a 0) en (ex + 1) dp a1 a2 a3 s1 s2 s3 kt 0 eo, oX6 xt tt tn tp ts tk tv]) rfl rfl) (by decide +kernel) hl.1 rfl rfl (Nat.le_of_ble_eq_true rfl) dX5_execute_76 ⟨Nat.le_of_ble_eq_true rfl, Nat.le_of_ble_eq_true rfl⟩ (fun v w1 H locs hq hw => ?_)
          obtain ⟨r12, q76_0, rfl, rfl⟩ := hq
          have hw := lo_cast (lo_sets_tail (n := 12) (k := 2) (pre := [oX5 xc xt (a 0) en (ex + 1) dp a1 a2 a3 s1 s2 s3 kt 0 eo, oX6 xt tt tn tp ts tk tv]) (w0 := [oX3 (a 0) (a 1) (a 2) (Pn P), arN X (a 1) 6 b, oX0 (a 2) (a 3) (a 4) (a 5) (Px P) (Pk P), arI X (a 3) 20 (Pa P), arI X (a 4) 20 (Pb P), arI X (a 5) 20 (Pd P)] ++ ((lsW b (PL P)))) (w1 := [oX3 (a 0) (a 1) (a 2) (Pn P), arN X (a 1) 6 b, oX0 (a 2) (a 3) (a 4) (a 5) (Px P) (Pk P), arI X (a 3) 20 (Pa P), arI X (a 4) 20 (Pb P), arI X (a 5) 20 (Pd P)] ++ ((lsW b (PL P)))) rfl rfl rfl) hw
          have hw : lo_Wd X ([oX5 xc xt (a 0) en (ex + 1) dp a1 a2 a3 s1 s2 s3 kt 0 eo, oX6 xt tt tn tp ts tk tv, oX3 (a 0) (a 1) (a 2) (Pn P), arN X (a 1) 6 b, oX0 (a 2) (a 3) (a 4) (a 5) (Px P) (Pk P), arI X (a 3) 20 (Pa P), arI X (a 4) 20 (Pb P), arI X (a 5) 20 (Pd P)] ++ ((lsW b (PL P)))) A9 s9.heap H locs := hw
          refine W.eq (g2 := F0 m9 79 ls [.int (iI r12)]) rfl ?_
          refine lo_if_eq (tgt := 122) E dX5_execute_79 (by decide) (by omega) (fun c13 => ?_) (fun c13 => ?_)
          · skip
            refine lv_aload_n Ex Eb dX5_execute_122 rfl (lv_at hl 0 rfl) ?_
            refine lv_iconst (v := iI 3) Ex Eb dX5_execute_123 rfl ?_
            refine lo_callV (q0 := 0) (rest := []) E hK hw (kX5_fail l X xc (a 0) a1 a2 a3 en (ex + 1) dp s1 s2 s3 kt 0 eo xt tt tn tp ts tk tv 3 ) (cwV 1 E.2.2.2.2 gX5_execute_X5_fail rfl rfl rfl (by decide +kernel) ⟨Nat.le_of_ble_eq_true rfl, Nat.le_of_ble_eq_true rfl⟩) rfl rfl [0, 1] rfl (by decide) hl.1 rfl rfl (Nat.le_of_ble_eq_true rfl) dX5_execute_124 ⟨Nat.le_of_ble_eq_true rfl, Nat.le_of_ble_eq_true rfl⟩ (fun v w1 H locs hq hw => ?_)
            obtain ⟨rfl, rfl⟩ := hq
            have hw : lo_Wd X ([oX5 xc xt (a 0) en (ex + 1) dp a1 a2 a3 s1 s2 s3 kt 3 ts, oX6 xt tt tn tp ts tk tv, oX3 (a 0) (a 1) (a 2) (Pn P), arN X (a 1) 6 b, oX0 (a 2) (a 3) (a 4) (a 5) (Px P) (Pk P), arI X (a 3) 20 (Pa P), arI X (a 4) 20 (Pb P), arI X (a 5) 20 (Pd P)] ++ ((lsW b (PL P)))) A9 s9.heap H locs := hw
            refine W.eq (g2 := F0 m9 127 ls []) rfl ?_
            exact lo_vret E hRt hLk hK hAe hw dX5_execute_127 rfl ⟨P, 3, ts, (by first | exact Or.inl (EXF_chg hPW hc5 hy g1 (fun h => h2 (by omega)) h4 (wdY q96_0 (by omega)) q116_0) | exact Or.inl (EXF_new (by omega) hPW (by omega) hy g1 g2 g3) | exact Or.inr ⟨EX_no (s := s2) hPW hc5 (by omega) (fun h => h2 (by omega)) (by rw [← g1]; exact wdN q96_0 (by omega)), rfl, rfl, rfl⟩ | exact Or.inl (EXF_all (by omega) hPW) | exact Or.inr ⟨EXF_full (by omega) hPW (by omega), rfl, rfl, rfl⟩ | (exfalso; omega)), (by omega), rfl, rfl⟩
          · skip
            refine lv_aload_n Ex Eb dX5_execute_82 rfl (lv_at hl 0 rfl) ?_
            refine lv_iload_n Ex Eb dX5_execute_83 rfl (lv_at hl 1 rfl) ?_
            refine lv_aload_n Ex Eb dX5_execute_84 rfl (lv_at hl 0 rfl) ?_
            refine lo_get E hK hw huRX5 1 hf59 rfl 0 rfl rfl (by decide) (v := .ref (a 0)) rfl dX5_execute_85 ?_
            refine lo_get E hK hw huRX3 0 hf171 rfl 2 rfl rfl (by decide) (v := .ref (a 1)) rfl dX5_execute_88 ?_
            refine lv_aload_n Ex Eb dX5_execute_91 rfl (lv_at hl 0 rfl) ?_
            refine lo_get E hK hw huRX5 8 hf32 rfl 0 rfl rfl (by decide) (v := .int (iI s1)) rfl dX5_execute_92 ?_
            refine lo_aldN E hK hw 3 rfl (by omega) dX5_execute_95 ?_
            refine lo_callV (q0 := 0) (rest := []) E hK hw (kX5_isPossible l X xc (a 0) a1 a2 a3 en (ex + 1) dp s1 s2 s3 kt 0 eo xt (b s1.toNat) (PL P s1.toNat) c (hLi) (hc5) (by omega)) (cwV 2 E.2.2.2.2 gX5_execute_X5_isPossible rfl rfl rfl (by decide +kernel) ⟨Nat.le_of_ble_eq_true rfl, Nat.le_of_ble_eq_true rfl⟩) rfl rfl [0, 8 + s1.toNat] (lo_ps_cons rfl (lo_ps_cons (lsW_atE (k := 8) rfl (by omega)) lo_ps_nil)) (by simp [va_nd]; try omega) hl.1 rfl rfl (Nat.le_of_ble_eq_true rfl) dX5_execute_96 ⟨Nat.le_of_ble_eq_true rfl, Nat.le_of_ble_eq_true rfl⟩ (fun v w1 H locs hq hw => ?_)
            obtain ⟨z14, q96_0, rfl, rfl⟩ := hq
            have hw := lo_cast (lsW_k (k := 8) (ps := [0]) (w1 := [oX5 xc xt (a 0) en (ex + 1) dp a1 a2 a3 s1 s2 s3 kt 0 eo]) rfl (by omega) (by decide) rfl rfl) hw
            have hw : lo_Wd X ([oX5 xc xt (a 0) en (ex + 1) dp a1 a2 a3 s1 s2 s3 kt 0 eo, oX6 xt tt tn tp ts tk tv, oX3 (a 0) (a 1) (a 2) (Pn P), arN X (a 1) 6 b, oX0 (a 2) (a 3) (a 4) (a 5) (Px P) (Pk P), arI X (a 3) 20 (Pa P), arI X (a 4) 20 (Pb P), arI X (a 5) 20 (Pd P)] ++ ((lsW b (PL P)))) A9 s9.heap H locs := hw
            refine W.eq (g2 := F0 m9 99 ls [.int (iI z14)]) rfl ?_
            refine lo_if_eq (tgt := 122) E dX5_execute_99 (by decide) (by omega) (fun c15 => ?_) (fun c15 => ?_)
            · skip
              refine lv_aload_n Ex Eb dX5_execute_122 rfl (lv_at hl 0 rfl) ?_
              refine lv_iconst (v := iI 3) Ex Eb dX5_execute_123 rfl ?_
              refine lo_callV (q0 := 0) (rest := []) E hK hw (kX5_fail l X xc (a 0) a1 a2 a3 en (ex + 1) dp s1 s2 s3 kt 0 eo xt tt tn tp ts tk tv 3 ) (cwV 1 E.2.2.2.2 gX5_execute_X5_fail rfl rfl rfl (by decide +kernel) ⟨Nat.le_of_ble_eq_true rfl, Nat.le_of_ble_eq_true rfl⟩) rfl rfl [0, 1] rfl (by decide) hl.1 rfl rfl (Nat.le_of_ble_eq_true rfl) dX5_execute_124 ⟨Nat.le_of_ble_eq_true rfl, Nat.le_of_ble_eq_true rfl⟩ (fun v w1 H locs hq hw => ?_)
              obtain ⟨rfl, rfl⟩ := hq
              have hw : lo_Wd X ([oX5 xc xt (a 0) en (ex + 1) dp a1 a2 a3 s1 s2 s3 kt 3 ts, oX6 xt tt tn tp ts tk tv, oX3 (a 0) (a 1) (a 2) (Pn P), arN X (a 1) 6 b, oX0 (a 2) (a 3) (a 4) (a 5) (Px P) (Pk P), arI X (a 3) 20 (Pa P), arI X (a 4) 20 (Pb P), arI X (a 5) 20 (Pd P)] ++ ((lsW b (PL P)))) A9 s9.heap H locs := hw
              refine W.eq (g2 := F0 m9 127 ls []) rfl ?_
              exact lo_vret E hRt hLk hK hAe hw dX5_execute_127 rfl ⟨P, 3, ts, (by first | exact Or.inl (EXF_chg hPW hc5 hy g1 (fun h => h2 (by omega)) h4 (wdY q96_0 (by omega)) q116_0) | exact Or.inl (EXF_new (by omega) hPW (by omega) hy g1 g2 g3) | exact Or.inr ⟨EX_no (s := s2) hPW hc5 (by omega) (fun h => h2 (by omega)) (by rw [← g1]; exact wdN q96_0 (by omega)), rfl, rfl, rfl⟩ | exact Or.inl (EXF_all (by omega) hPW) | exact Or.inr ⟨EXF_full (by omega) hPW (by omega), rfl, rfl, rfl⟩ | (exfalso; omega)), (by omega), rfl, rfl⟩
            · skip
              refine lv_aload_n Ex Eb dX5_execute_102 rfl (lv_at hl 0 rfl) ?_
              refine lv_iload_n Ex Eb dX5_execute_103 rfl (lv_at hl 1 rfl) ?_
              refine lv_aload_n Ex Eb dX5_execute_104 rfl (lv_at hl 0 rfl) ?_
              refine lo_get E hK hw huRX5 1 hf59 rfl 0 rfl rfl (by decide) (v := .ref (a 0)) rfl dX5_execute_105 ?_
              refine lo_get E hK hw huRX3 0 hf171 rfl 2 rfl rfl (by decide) (v := .ref (a 1)) rfl dX5_execute_108 ?_
              refine lv_aload_n Ex Eb dX5_execute_111 rfl (lv_at hl 0 rfl) ?_
              refine lo_get E hK hw huRX5 8 hf32 rfl 0 rfl rfl (by decide) (v := .int (iI s1)) rfl dX5_execute_112 ?_
              refine lo_aldN E hK hw 3 rfl (by omega) dX5_execute_115 ?_
              refine lo_callV (q0 := 0) (rest := []) E hK hw (kX5_change l X xc a1 a2 a3 en (ex + 1) dp s1 s2 s3 kt 0 eo xt a b P c (hPI) (hc5) (by omega) (by omega) (wdY q96_0 (by omega))) (cwV 2 E.2.2.2.2 gX5_execute_X5_change rfl rfl rfl (by decide +kernel) ⟨Nat.le_of_ble_eq_true rfl, Nat.le_of_ble_eq_true rfl⟩) rfl rfl [0, 2, 3, 4, 5, 6, 7, 8, 9, 10, 11, 12, 13] rfl (by decide) hl.1 rfl rfl (Nat.le_of_ble_eq_true rfl) dX5_execute_116 ⟨Nat.le_of_ble_eq_true rfl, Nat.le_of_ble_eq_true rfl⟩ (fun v w1 H locs hq hw => ?_)
              obtain ⟨Q16, q116_0, rfl, rfl⟩ := hq
              have hw : lo_Wd X ([oX5 xc xt (a 0) en (ex + 1) dp a1 a2 a3 s1 s2 s3 kt 0 eo, oX6 xt tt tn tp ts tk tv, oX3 (a 0) (a 1) (a 2) (Pn Q16), arN X (a 1) 6 b, oX0 (a 2) (a 3) (a 4) (a 5) (Px Q16) (Pk Q16), arI X (a 3) 20 (Pa Q16), arI X (a 4) 20 (Pb Q16), arI X (a 5) 20 (Pd Q16)] ++ ((lsW b (PL Q16)))) A9 s9.heap H locs := hw
              refine W.eq (g2 := F0 m9 119 ls []) rfl ?_
              refine lv_goto (tgt := 127) Ex Eb dX5_execute_119 (by decide) ?_
              exact lo_vret E hRt hLk hK hAe hw dX5_execute_127 rfl ⟨Q16, 0, eo, (by first | exact Or.inl (EXF_chg hPW hc5 hy g1 (fun h => h2 (by omega)) h4 (wdY q96_0 (by omega)) q116_0) | exact Or.inl (EXF_new (by omega) hPW (by omega) hy g1 g2 g3) | exact Or.inr ⟨EX_no (s := s2) hPW hc5 (by omega) (fun h => h2 (by omega)) (by rw [← g1]; exact wdN q96_0 (by omega)), rfl, rfl, rfl⟩ | exact Or.inl (EXF_all (by omega) hPW) | exact Or.inr ⟨EXF_full (by omega) hPW (by omega), rfl, rfl, rfl⟩ | (exfalso; omega)), (by omega), rfl, rfl⟩
      · skip
        have hc1 : c = 1 := by omega
        have y9 := y1 hc1
        have g1 := h1 (by omega)
        have g2 := h2 (by omega)
        have g3 := h3 (by omega)
        refine lv_aload_n Ex Eb dX5_execute_41 rfl (lv_at hl 0 rfl) ?_
        refine lo_get E hK hw huRX5 1 hf59 rfl 0 rfl rfl (by decide) (v := .ref (a 0)) rfl dX5_execute_42 ?_
        refine lv_aload_n Ex Eb dX5_execute_45 rfl (lv_at hl 0 rfl) ?_
        refine lo_get E hK hw huRX5 8 hf32 rfl 0 rfl rfl (by decide) (v := .int (iI s1)) rfl dX5_execute_46 ?_
        refine lv_aload_n Ex Eb dX5_execute_49 rfl (lv_at hl 0 rfl) ?_
        refine lo_get E hK hw huRX5 9 hf35 rfl 0 rfl rfl (by decide) (v := .int (iI s2)) rfl dX5_execute_50 ?_
        refine lv_aload_n Ex Eb dX5_execute_53 rfl (lv_at hl 0 rfl) ?_
        refine lo_get E hK hw huRX5 10 hf38 rfl 0 rfl rfl (by decide) (v := .int (iI s3)) rfl dX5_execute_54 ?_
        have hw : lo_Wd X (([oX5 xc xt (a 0) en (ex + 1) dp a1 a2 a3 s1 s2 s3 kt 0 eo, oX6 xt tt tn tp ts tk tv]) ++ ([oX3 (a 0) (a 1) (a 2) (Pn P), arN X (a 1) 6 b, oX0 (a 2) (a 3) (a 4) (a 5) (Px P) (Pk P), arI X (a 3) 20 (Pa P), arI X (a 4) 20 (Pb P), arI X (a 5) 20 (Pd P)] ++ ((lsW b (PL P))))) A9 s9.heap _ _ := hw
        refine lo_callV (q0 := 2) (rest := []) E hK hw (kX3_addLoan l X a b P s1 s2 s3 (hPI) (by omega) (by omega) (by omega) (by omega)) (cwV 3 E.2.2.2.2 gX5_execute_X3_addLoan rfl rfl rfl (by decide +kernel) ⟨Nat.le_of_ble_eq_true rfl, Nat.le_of_ble_eq_true rfl⟩) rfl rfl (List.range' 2 12) (lo_ps_tail (pre := [oX5 xc xt (a 0) en (ex + 1) dp a1 a2 a3 s1 s2 s3 kt 0 eo, oX6 xt tt tn tp ts tk tv]) rfl rfl) (by decide +kernel) hl.1 rfl rfl (Nat.le_of_ble_eq_true rfl) dX5_execute_57 ⟨Nat.le_of_ble_eq_true rfl, Nat.le_of_ble_eq_true rfl⟩ (fun v w1 H locs hq hw => ?_)
        obtain ⟨rfl, rfl⟩ := hq
        have hw := lo_cast (lo_sets_tail (n := 12) (k := 2) (pre := [oX5 xc xt (a 0) en (ex + 1) dp a1 a2 a3 s1 s2 s3 kt 0 eo, oX6 xt tt tn tp ts tk tv]) (w0 := [oX3 (a 0) (a 1) (a 2) (Pn P), arN X (a 1) 6 b, oX0 (a 2) (a 3) (a 4) (a 5) (Px P) (Pk P), arI X (a 3) 20 (Pa P), arI X (a 4) 20 (Pb P), arI X (a 5) 20 (Pd P)] ++ ((lsW b (PL P)))) (w1 := [oX3 (a 0) (a 1) (a 2) (Pn (plNew P s1 s2 s3)), arN X (a 1) 6 b, oX0 (a 2) (a 3) (a 4) (a 5) (Px (plNew P s1 s2 s3)) (Pk (plNew P s1 s2 s3)), arI X (a 3) 20 (Pa (plNew P s1 s2 s3)), arI X (a 4) 20 (Pb (plNew P s1 s2 s3)), arI X (a 5) 20 (Pd (plNew P s1 s2 s3))] ++ ((lsW b (PL (plNew P s1 s2 s3))))) rfl rfl rfl) hw
        have hw : lo_Wd X ([oX5 xc xt (a 0) en (ex + 1) dp a1 a2 a3 s1 s2 s3 kt 0 eo, oX6 xt tt tn tp ts tk tv, oX3 (a 0) (a 1) (a 2) (Pn (plNew P s1 s2 s3)), arN X (a 1) 6 b, oX0 (a 2) (a 3) (a 4) (a 5) (Px (plNew P s1 s2 s3)) (Pk (plNew P s1 s2 s3)), arI X (a 3) 20 (Pa (plNew P s1 s2 s3)), arI X (a 4) 20 (Pb (plNew P s1 s2 s3)), arI X (a 5) 20 (Pd (plNew P s1 s2 s3))] ++ ((lsW b (PL (plNew P s1 s2 s3))))) A9 s9.heap H locs := hw
        refine W.eq (g2 := F0 m9 60 ls []) rfl ?_
        refine lv_goto (tgt := 127) Ex Eb dX5_execute_60 (by decide) ?_
        exact lo_vret E hRt hLk hK hAe hw dX5_execute_127 rfl ⟨plNew P s1 s2 s3, 0, eo, (by first | exact Or.inl (EXF_chg hPW hc5 hy g1 (fun h => h2 (by omega)) h4 (wdY q96_0 (by omega)) q116_0) | exact Or.inl (EXF_new (by omega) hPW (by omega) hy g1 g2 g3) | exact Or.inr ⟨EX_no (s := s2) hPW hc5 (by omega) (fun h => h2 (by omega)) (by rw [← g1]; exact wdN q96_0 (by omega)), rfl, rfl, rfl⟩ | exact Or.inl (EXF_all (by omega) hPW) | exact Or.inr ⟨EXF_full (by omega) hPW (by omega), rfl, rfl, rfl⟩ | (exfalso; omega)), (by omega), rfl, rfl⟩
  · skip
    refine lv_aload_n Ex Eb dX5_execute_15 rfl (lv_at hl 0 rfl) ?_
    refine lo_get E hK hw huRX5 1 hf59 rfl 0 rfl rfl (by decide) (v := .ref (a 0)) rfl dX5_execute_16 ?_
    have hw : lo_Wd X (([oX5 xc xt (a 0) en (ex + 1) dp a1 a2 a3 s1 s2 s3 kt 0 eo, oX6 xt tt tn tp ts tk tv]) ++ ([oX3 (a 0) (a 1) (a 2) (Pn P), arN X (a 1) 6 b, oX0 (a 2) (a 3) (a 4) (a 5) (Px P) (Pk P), arI X (a 3) 20 (Pa P), arI X (a 4) 20 (Pb P), arI X (a 5) 20 (Pd P)] ++ ((lsW b (PL P))))) A9 s9.heap _ _ := hw
    refine lo_callV (q0 := 2) (rest := []) E hK hw (kX3_settleAll l X a b P (hPI)) (cwV 0 E.2.2.2.2 gX5_execute_X3_settleAll rfl rfl rfl (by decide +kernel) ⟨Nat.le_of_ble_eq_true rfl, Nat.le_of_ble_eq_true rfl⟩) rfl rfl (List.range' 2 12) (lo_ps_tail (pre := [oX5 xc xt (a 0) en (ex + 1) dp a1 a2 a3 s1 s2 s3 kt 0 eo, oX6 xt tt tn tp ts tk tv]) rfl rfl) (by decide +kernel) hl.1 rfl rfl (Nat.le_of_ble_eq_true rfl) dX5_execute_19 ⟨Nat.le_of_ble_eq_true rfl, Nat.le_of_ble_eq_true rfl⟩ (fun v w1 H locs hq hw => ?_)
    obtain ⟨rfl, rfl⟩ := hq
    have hw := lo_cast (lo_sets_tail (n := 12) (k := 2) (pre := [oX5 xc xt (a 0) en (ex + 1) dp a1 a2 a3 s1 s2 s3 kt 0 eo, oX6 xt tt tn tp ts tk tv]) (w0 := [oX3 (a 0) (a 1) (a 2) (Pn P), arN X (a 1) 6 b, oX0 (a 2) (a 3) (a 4) (a 5) (Px P) (Pk P), arI X (a 3) 20 (Pa P), arI X (a 4) 20 (Pb P), arI X (a 5) 20 (Pd P)] ++ ((lsW b (PL P)))) (w1 := [oX3 (a 0) (a 1) (a 2) (Pn (plAll P (Pn P).toNat)), arN X (a 1) 6 b, oX0 (a 2) (a 3) (a 4) (a 5) (Px (plAll P (Pn P).toNat)) (Pk (plAll P (Pn P).toNat)), arI X (a 3) 20 (Pa (plAll P (Pn P).toNat)), arI X (a 4) 20 (Pb (plAll P (Pn P).toNat)), arI X (a 5) 20 (Pd (plAll P (Pn P).toNat))] ++ ((lsW b (PL (plAll P (Pn P).toNat))))) rfl rfl rfl) hw
    have hw : lo_Wd X ([oX5 xc xt (a 0) en (ex + 1) dp a1 a2 a3 s1 s2 s3 kt 0 eo, oX6 xt tt tn tp ts tk tv, oX3 (a 0) (a 1) (a 2) (Pn (plAll P (Pn P).toNat)), arN X (a 1) 6 b, oX0 (a 2) (a 3) (a 4) (a 5) (Px (plAll P (Pn P).toNat)) (Pk (plAll P (Pn P).toNat)), arI X (a 3) 20 (Pa (plAll P (Pn P).toNat)), arI X (a 4) 20 (Pb (plAll P (Pn P).toNat)), arI X (a 5) 20 (Pd (plAll P (Pn P).toNat))] ++ ((lsW b (PL (plAll P (Pn P).toNat))))) A9 s9.heap H locs := hw
    refine W.eq (g2 := F0 m9 22 ls [.int (iI (plSum P (Pn P).toNat))]) rfl ?_
    refine lv_pop Ex Eb dX5_execute_22 rfl ?_
    refine lv_goto (tgt := 127) Ex Eb dX5_execute_23 (by decide) ?_
    exact lo_vret E hRt hLk hK hAe hw dX5_execute_127 rfl ⟨plAll P (Pn P).toNat, 0, eo, (by first | exact Or.inl (EXF_chg hPW hc5 hy g1 (fun h => h2 (by omega)) h4 (wdY q96_0 (by omega)) q116_0) | exact Or.inl (EXF_new (by omega) hPW (by omega) hy g1 g2 g3) | exact Or.inr ⟨EX_no (s := s2) hPW hc5 (by omega) (fun h => h2 (by omega)) (by rw [← g1]; exact wdN q96_0 (by omega)), rfl, rfl, rfl⟩ | exact Or.inl (EXF_all (by omega) hPW) | exact Or.inr ⟨EXF_full (by omega) hPW (by omega), rfl, rfl, rfl⟩ | (exfalso; omega)), (by omega), rfl, rfl⟩
