set_option maxHeartbeats 4000000 in
set_option maxRecDepth 100000 in
theorem kX5_expectLoans_r (l : Launch) (X : KX) (kS : Nat → Nat) (xc tg a1 a2 a3 : Nat) (en ex dp s1 s2 s3 kt ek eo : Int) (xt tt : Nat) (tn tp ts tk tv : Int) (T : Nat → Int) (ht : 0 ≤ tn ∧ tn ≤ 500) (hT : ∀ k : Nat, 0 ≤ T k ∧ T k ≤ 255) (hp : 0 ≤ tp ∧ tp ≤ tn) (hv : 0 ≤ tv ∧ tv ≤ 9999999) (he : 0 ≤ ek ∧ ek ≤ 9) : CE l X kS yX5_expectLoans wsX5_expectLoans ({ frames := 5, cells := 0, slots := 0, locals := 228 }) [.ref xc] ([oX5 xc xt tg en ex dp a1 a2 a3 s1 s2 s3 kt ek eo, oX6 xt tt tn tp ts tk tv, arB X tt 500 (sB T)]) (fun v9 w9 => ∃ na : Int, ∃ nb : Int, ∃ nk : Int, ∃ ng : Int, ∃ ke : Int, ∃ ko : Int, (nb = spE pSp T tn tp ∧ SCK T tn nb tv na nk ng) ∧ ((0 ≤ nb ∧ nb ≤ na ∧ na ≤ tn) ∧ (0 ≤ nk ∧ nk ≤ 4) ∧ (0 ≤ ng ∧ ng ≤ 9999999) ∧ 0 ≤ ke ∧ ke ≤ 9) ∧ ((WD T nk nb na 0 ∧ ke = ek ∧ ko = eo) ∨ (¬ WD T nk nb na 0 ∧ ke = 1 ∧ ko = nb)) ∧ v9 = none ∧ w9 = [oX5 xc xt tg en ex dp a1 a2 a3 s1 s2 s3 kt ke ko, oX6 xt tt tn na nb nk ng, arB X tt 500 (sB T)]) 0 0 := by
  refine lo_enterE (cc := cX5_expectLoans) (maxL := 1) (ret := none) (lv := [(0, .ref xc)]) (by decide) rfl rfl (Nat.le_of_ble_eq_true rfl) ?_
  intro p9 e9 s9 m9 bl9 me9 c9 A9 ls hAe E hRt hLk hK hl hw hV
  have Ex := E.1
  have Eb := E.2.1
  have huRX5 : ∀ w ∈ u_ws RX5 TX5 14, w ∈ wsX5_expectLoans := by decide +kernel
  have hf55 : (Cond.fieldLink RX5 55 "LoanSchedule$Script" "tokens" "LLoanSchedule$Tokens;").before _ s9 = true := E.2.2.2.2 _ (List.mem_of_getElem? (i := 1) rfl)
  refine lv_aload_n Ex Eb dX5_expectLoans_0 rfl (lv_at hl 0 rfl) ?_
  refine lo_get E hK hw huRX5 0 hf55 rfl 0 rfl rfl (by decide) (v := .ref xt) rfl dX5_expectLoans_1 ?_
  refine lo_callV (q0 := 1) (rest := []) E hK hw (kX6_advance l X xt tt tn tp ts tk tv T (ht) (hT) (by omega) (hv)) (cwV 0 E.2.2.2.2 gX5_expectLoans_X6_advance rfl rfl rfl (by decide +kernel) ⟨Nat.le_of_ble_eq_true rfl, Nat.le_of_ble_eq_true rfl⟩) rfl rfl [1, 2] rfl (by decide) hl.1 rfl rfl (Nat.le_of_ble_eq_true rfl) dX5_expectLoans_4 ⟨Nat.le_of_ble_eq_true rfl, Nat.le_of_ble_eq_true rfl⟩ (fun v w1 H locs hq hw => ?_)
  obtain ⟨na1, nk2, ng3, q4_0, q4_1, rfl, rfl⟩ := hq
  have hw : lo_Wd X ([oX5 xc xt tg en ex dp a1 a2 a3 s1 s2 s3 kt ek eo, oX6 xt tt tn na1 (spE pSp T tn tp) nk2 ng3, arB X tt 500 (sB T)]) A9 s9.heap H locs := hw
  refine W.eq (g2 := F0 m9 7 ls []) rfl ?_
  have hnk := SCK_k q4_0
  have hsr := spE_r pSp (T := T) (n := tn) (x := tp) (by omega)
  refine lv_aload_n Ex Eb dX5_expectLoans_7 rfl (lv_at hl 0 rfl) ?_
  refine lo_get E hK hw huRX5 0 hf55 rfl 0 rfl rfl (by decide) (v := .ref xt) rfl dX5_expectLoans_8 ?_
  refine lo_ldcS E hV 0 (by decide) rfl dX5_expectLoans_11 ?_
  refine lo_callVE (q0 := 1) (rest := []) E hK hw hV (kX6_isWord l X kS xt tt tn na1 (spE pSp T tn tp) nk2 ng3 T 0 (ht) (hT) (by omega) (hnk) (by omega)) (cwV 1 E.2.2.2.2 gX5_expectLoans_X6_isWord rfl rfl rfl (by decide +kernel) ⟨Nat.le_of_ble_eq_true rfl, Nat.le_of_ble_eq_true rfl⟩) rfl rfl [1, 2] rfl (by decide) hl.1 rfl rfl (Nat.le_of_ble_eq_true rfl) dX5_expectLoans_13 ⟨Nat.le_of_ble_eq_true rfl, Nat.le_of_ble_eq_true rfl⟩ (fun v w1 H locs hq hw => ?_)
  obtain ⟨z4, q13_0, rfl, rfl⟩ := hq
  have hw : lo_Wd X ([oX5 xc xt tg en ex dp a1 a2 a3 s1 s2 s3 kt ek eo, oX6 xt tt tn na1 (spE pSp T tn tp) nk2 ng3, arB X tt 500 (sB T)]) A9 s9.heap H locs := hw
  refine W.eq (g2 := F0 m9 16 ls [.int (iI z4)]) rfl ?_
  refine lo_if_ne (tgt := 24) E dX5_expectLoans_16 (by decide) (by omega) (fun c5 => ?_) (fun c5 => ?_)
  · skip
    exact lo_vret E hRt hLk hK hAe hw dX5_expectLoans_24 rfl ⟨na1, spE pSp T tn tp, nk2, ng3, ek, eo, (⟨rfl, q4_0⟩), (by omega), (by first | exact Or.inl ⟨wdY q13_0 (by omega), rfl, rfl⟩ | exact Or.inr ⟨wdN q13_0 (by omega), rfl, rfl⟩), rfl, rfl⟩
  · skip
    refine lv_aload_n Ex Eb dX5_expectLoans_19 rfl (lv_at hl 0 rfl) ?_
    refine lv_iconst (v := iI 1) Ex Eb dX5_expectLoans_20 rfl ?_
    refine lo_callV (q0 := 0) (rest := []) E hK hw (kX5_fail l X xc tg a1 a2 a3 en ex dp s1 s2 s3 kt ek eo xt tt tn na1 (spE pSp T tn tp) nk2 ng3 1 ) (cwV 1 E.2.2.2.2 gX5_expectLoans_X5_fail rfl rfl rfl (by decide +kernel) ⟨Nat.le_of_ble_eq_true rfl, Nat.le_of_ble_eq_true rfl⟩) rfl rfl [0, 1] rfl (by decide) hl.1 rfl rfl (Nat.le_of_ble_eq_true rfl) dX5_expectLoans_21 ⟨Nat.le_of_ble_eq_true rfl, Nat.le_of_ble_eq_true rfl⟩ (fun v w1 H locs hq hw => ?_)
    obtain ⟨rfl, rfl⟩ := hq
    have hw : lo_Wd X ([oX5 xc xt tg en ex dp a1 a2 a3 s1 s2 s3 kt 1 (spE pSp T tn tp), oX6 xt tt tn na1 (spE pSp T tn tp) nk2 ng3, arB X tt 500 (sB T)]) A9 s9.heap H locs := hw
    refine W.eq (g2 := F0 m9 24 ls []) rfl ?_
    exact lo_vret E hRt hLk hK hAe hw dX5_expectLoans_24 rfl ⟨na1, spE pSp T tn tp, nk2, ng3, 1, spE pSp T tn tp, (⟨rfl, q4_0⟩), (by omega), (by first | exact Or.inl ⟨wdY q13_0 (by omega), rfl, rfl⟩ | exact Or.inr ⟨wdN q13_0 (by omega), rfl, rfl⟩), rfl, rfl⟩
set_option maxHeartbeats 4000000 in
set_option maxRecDepth 100000 in
theorem kX5_run (l : Launch) (X : KX) (kS : Nat → Nat) (xc a1 a2 a3 : Nat) (en ex dp s1 s2 s3 kt ek eo : Int) (xt tt : Nat) (n0 tn tp ts tk tv : Int) (T : Nat → Int) (f1 f2 f3 : Nat → Int) (a b : Nat → Nat) (P : PT) (ht : 0 ≤ tn ∧ tn ≤ 500) (hT : ∀ k : Nat, 0 ≤ T k ∧ T k ≤ 255) (hv : 0 ≤ tv ∧ tv ≤ 9999999) (hPI : PI P) : CE l X kS yX5_run wsX5_run ({ frames := 7, cells := 0, slots := 0, locals := 269 }) [.ref xc, .int (iI tn)] ([oX5 xc xt (a 0) en ex dp a1 a2 a3 s1 s2 s3 kt ek eo, oX6 xt tt n0 tp ts tk tv, arB X tt 500 (sB T), arI X a1 3 f1, arI X a2 3 f2, arI X a3 3 f3, oX3 (a 0) (a 1) (a 2) (Pn P), arN X (a 1) 6 b, oX0 (a 2) (a 3) (a 4) (a 5) (Px P) (Pk P), arI X (a 3) 20 (Pa P), arI X (a 4) 20 (Pb P), arI X (a 5) 20 (Pd P)] ++ ((lsW b (PL P)))) (fun v9 w9 => ∃ qp : Int, ∃ qs : Int, ∃ qk : Int, ∃ qv : Int, ∃ qe : Int, ∃ qx : Int, ∃ qd : Int, ∃ q1 : Int, ∃ q2 : Int, ∃ q3 : Int, ∃ qt : Int, ∃ ke : Int, ∃ ko : Int, ∃ G1 : Nat → Int, ∃ G2 : Nat → Int, ∃ G3 : Nat → Int, ∃ Q : PT, (SCO T tn (scS T tn f1 f2 f3) ke ko Q) ∧ (0 ≤ qv ∧ qv ≤ 9999999) ∧ (0 ≤ ke ∧ ke ≤ 9) ∧ (ke = 0 → ko = -1) ∧ v9 = none ∧ w9 = [oX5 xc xt (a 0) qe qx qd a1 a2 a3 q1 q2 q3 qt ke ko, oX6 xt tt tn qp qs qk qv, arB X tt 500 (sB T), arI X a1 3 G1, arI X a2 3 G2, arI X a3 3 G3, oX3 (a 0) (a 1) (a 2) (Pn Q), arN X (a 1) 6 b, oX0 (a 2) (a 3) (a 4) (a 5) (Px Q) (Pk Q), arI X (a 3) 20 (Pa Q), arI X (a 4) 20 (Pb Q), arI X (a 5) 20 (Pd Q)] ++ ((lsW b (PL Q)))) 0 0 := by
  refine lo_enterE (cc := cX5_run) (maxL := 4) (ret := none) (lv := [(0, .ref xc), (1, .int (iI tn))]) (by decide) rfl rfl (Nat.le_of_ble_eq_true rfl) ?_
  intro p9 e9 s9 m9 bl9 me9 c9 A9 ls hAe E hRt hLk hK hl hw hV
  have Ex := E.1
  have Eb := E.2.1
  have huRX5 : ∀ w ∈ u_ws RX5 TX5 14, w ∈ wsX5_run := by decide +kernel
  have hf55 : (Cond.fieldLink RX5 55 "LoanSchedule$Script" "tokens" "LLoanSchedule$Tokens;").before _ s9 = true := E.2.2.2.2 _ (List.mem_of_getElem? (i := 1) rfl)
  have hf59 : (Cond.fieldLink RX5 59 "LoanSchedule$Script" "target" "LLoanSchedule$Plan;").before _ s9 = true := E.2.2.2.2 _ (List.mem_of_getElem? (i := 2) rfl)
  have hf9 : (Cond.fieldLink RX5 9 "LoanSchedule$Script" "ended" "Z").before _ s9 = true := E.2.2.2.2 _ (List.mem_of_getElem? (i := 3) rfl)
  have hf15 : (Cond.fieldLink RX5 15 "LoanSchedule$Script" "executed" "I").before _ s9 = true := E.2.2.2.2 _ (List.mem_of_getElem? (i := 4) rfl)
  have hf19 : (Cond.fieldLink RX5 19 "LoanSchedule$Script" "depth" "I").before _ s9 = true := E.2.2.2.2 _ (List.mem_of_getElem? (i := 5) rfl)
  have hf44 : (Cond.fieldLink RX5 44 "LoanSchedule$Script" "errorKind" "I").before _ s9 = true := E.2.2.2.2 _ (List.mem_of_getElem? (i := 6) rfl)
  have hf47 : (Cond.fieldLink RX5 47 "LoanSchedule$Script" "errorOffset" "I").before _ s9 = true := E.2.2.2.2 _ (List.mem_of_getElem? (i := 7) rfl)
  have hc79 : (Cond.constant RX5 79 (1000000)).before _ s9 = true := E.2.2.2.2 _ (List.mem_of_getElem? (i := 8) rfl)
  refine lv_aload_n Ex Eb dX5_run_0 rfl (lv_at hl 0 rfl) ?_
  refine lo_get E hK hw huRX5 0 hf55 rfl 0 rfl rfl (by decide) (v := .ref xt) rfl dX5_run_1 ?_
  refine lv_iload_n Ex Eb dX5_run_4 rfl (lv_at hl 1 rfl) ?_
  refine lo_callV (q0 := 1) (rest := []) E hK hw (kX6_rewind l X xt tt n0 tp ts tk tv T tn (by omega)) (cwV 1 E.2.2.2.2 gX5_run_X6_rewind rfl rfl rfl (by decide +kernel) ⟨Nat.le_of_ble_eq_true rfl, Nat.le_of_ble_eq_true rfl⟩) rfl rfl [1, 2] rfl (by decide) hl.1 rfl rfl (Nat.le_of_ble_eq_true rfl) dX5_run_5 ⟨Nat.le_of_ble_eq_true rfl, Nat.le_of_ble_eq_true rfl⟩ (fun v w1 H locs hq hw => ?_)
  obtain ⟨rfl, rfl⟩ := hq
  have hw : lo_Wd X ([oX5 xc xt (a 0) en ex dp a1 a2 a3 s1 s2 s3 kt ek eo, oX6 xt tt tn 0 ts tk tv, arB X tt 500 (sB T), arI X a1 3 f1, arI X a2 3 f2, arI X a3 3 f3, oX3 (a 0) (a 1) (a 2) (Pn P), arN X (a 1) 6 b, oX0 (a 2) (a 3) (a 4) (a 5) (Px P) (Pk P), arI X (a 3) 20 (Pa P), arI X (a 4) 20 (Pb P), arI X (a 5) 20 (Pd P)] ++ ((lsW b (PL P)))) A9 s9.heap H locs := hw
  refine W.eq (g2 := F0 m9 8 ls []) rfl ?_
  refine lv_aload_n Ex Eb dX5_run_8 rfl (lv_at hl 0 rfl) ?_
  refine lo_get E hK hw huRX5 1 hf59 rfl 0 rfl rfl (by decide) (v := .ref (a 0)) rfl dX5_run_9 ?_
  have hw : lo_Wd X (([oX5 xc xt (a 0) en ex dp a1 a2 a3 s1 s2 s3 kt ek eo, oX6 xt tt tn 0 ts tk tv, arB X tt 500 (sB T), arI X a1 3 f1, arI X a2 3 f2, arI X a3 3 f3]) ++ ([oX3 (a 0) (a 1) (a 2) (Pn P), arN X (a 1) 6 b, oX0 (a 2) (a 3) (a 4) (a 5) (Px P) (Pk P), arI X (a 3) 20 (Pa P), arI X (a 4) 20 (Pb P), arI X (a 5) 20 (Pd P)] ++ ((lsW b (PL P))))) A9 s9.heap _ _ := hw
  refine lo_callV (q0 := 6) (rest := []) E hK hw (kX3_clear l X a b P ) (cwV 0 E.2.2.2.2 gX5_run_X3_clear rfl rfl rfl (by decide +kernel) ⟨Nat.le_of_ble_eq_true rfl, Nat.le_of_ble_eq_true rfl⟩) rfl rfl (List.range' 6 12) (lo_ps_tail (pre := [oX5 xc xt (a 0) en ex dp a1 a2 a3 s1 s2 s3 kt ek eo, oX6 xt tt tn 0 ts tk tv, arB X tt 500 (sB T), arI X a1 3 f1, arI X a2 3 f2, arI X a3 3 f3]) rfl rfl) (by decide +kernel) hl.1 rfl rfl (Nat.le_of_ble_eq_true rfl) dX5_run_12 ⟨Nat.le_of_ble_eq_true rfl, Nat.le_of_ble_eq_true rfl⟩ (fun v w1 H locs hq hw => ?_)
  obtain ⟨rfl, rfl⟩ := hq
  have hw := lo_cast (lo_sets_tail (n := 12) (k := 6) (pre := [oX5 xc xt (a 0) en ex dp a1 a2 a3 s1 s2 s3 kt ek eo, oX6 xt tt tn 0 ts tk tv, arB X tt 500 (sB T), arI X a1 3 f1, arI X a2 3 f2, arI X a3 3 f3]) (w0 := [oX3 (a 0) (a 1) (a 2) (Pn P), arN X (a 1) 6 b, oX0 (a 2) (a 3) (a 4) (a 5) (Px P) (Pk P), arI X (a 3) 20 (Pa P), arI X (a 4) 20 (Pb P), arI X (a 5) 20 (Pd P)] ++ ((lsW b (PL P)))) (w1 := [oX3 (a 0) (a 1) (a 2) 0, arN X (a 1) 6 b, oX0 (a 2) (a 3) (a 4) (a 5) 0 0, arI X (a 3) 20 (Pa P), arI X (a 4) 20 (Pb P), arI X (a 5) 20 (Pd P)] ++ ((lsW b (PL P)))) rfl rfl rfl) hw
  have hw : lo_Wd X ([oX5 xc xt (a 0) en ex dp a1 a2 a3 s1 s2 s3 kt ek eo, oX6 xt tt tn 0 ts tk tv, arB X tt 500 (sB T), arI X a1 3 f1, arI X a2 3 f2, arI X a3 3 f3, oX3 (a 0) (a 1) (a 2) 0, arN X (a 1) 6 b, oX0 (a 2) (a 3) (a 4) (a 5) 0 0, arI X (a 3) 20 (Pa P), arI X (a 4) 20 (Pb P), arI X (a 5) 20 (Pd P)] ++ ((lsW b (PL P)))) A9 s9.heap H locs := hw
  refine W.eq (g2 := F0 m9 15 ls []) rfl ?_
  refine lv_aload_n Ex Eb dX5_run_15 rfl (lv_at hl 0 rfl) ?_
  refine lv_iconst (v := iI 0) Ex Eb dX5_run_16 rfl ?_
  refine lo_put E hK hw huRX5 tyX5 tyX5_ok nmX5 2 hf9 rfl 0 rfl rfl (by decide) rfl rfl rfl rfl (Nat.le_of_ble_eq_true rfl) (ws' := [oX5 xc xt (a 0) 0 ex dp a1 a2 a3 s1 s2 s3 kt ek eo, oX6 xt tt tn 0 ts tk tv, arB X tt 500 (sB T), arI X a1 3 f1, arI X a2 3 f2, arI X a3 3 f3, oX3 (a 0) (a 1) (a 2) 0, arN X (a 1) 6 b, oX0 (a 2) (a 3) (a 4) (a 5) 0 0, arI X (a 3) 20 (Pa P), arI X (a 4) 20 (Pb P), arI X (a 5) 20 (Pd P)] ++ ((lsW b (PL P)))) rfl dX5_run_17 (fun H locs hw => ?_)
  refine lv_aload_n Ex Eb dX5_run_20 rfl (lv_at hl 0 rfl) ?_
  refine lv_iconst (v := iI 0) Ex Eb dX5_run_21 rfl ?_
  refine lo_put E hK hw huRX5 tyX5 tyX5_ok nmX5 3 hf15 rfl 0 rfl rfl (by decide) rfl rfl rfl rfl (Nat.le_of_ble_eq_true rfl) (ws' := [oX5 xc xt (a 0) 0 0 dp a1 a2 a3 s1 s2 s3 kt ek eo, oX6 xt tt tn 0 ts tk tv, arB X tt 500 (sB T), arI X a1 3 f1, arI X a2 3 f2, arI X a3 3 f3, oX3 (a 0) (a 1) (a 2) 0, arN X (a 1) 6 b, oX0 (a 2) (a 3) (a 4) (a 5) 0 0, arI X (a 3) 20 (Pa P), arI X (a 4) 20 (Pb P), arI X (a 5) 20 (Pd P)] ++ ((lsW b (PL P)))) rfl dX5_run_22 (fun H locs hw => ?_)
  refine lv_aload_n Ex Eb dX5_run_25 rfl (lv_at hl 0 rfl) ?_
  refine lv_iconst (v := iI 0) Ex Eb dX5_run_26 rfl ?_
  refine lo_put E hK hw huRX5 tyX5 tyX5_ok nmX5 4 hf19 rfl 0 rfl rfl (by decide) rfl rfl rfl rfl (Nat.le_of_ble_eq_true rfl) (ws' := [oX5 xc xt (a 0) 0 0 0 a1 a2 a3 s1 s2 s3 kt ek eo, oX6 xt tt tn 0 ts tk tv, arB X tt 500 (sB T), arI X a1 3 f1, arI X a2 3 f2, arI X a3 3 f3, oX3 (a 0) (a 1) (a 2) 0, arN X (a 1) 6 b, oX0 (a 2) (a 3) (a 4) (a 5) 0 0, arI X (a 3) 20 (Pa P), arI X (a 4) 20 (Pb P), arI X (a 5) 20 (Pd P)] ++ ((lsW b (PL P)))) rfl dX5_run_27 (fun H locs hw => ?_)
  refine lv_aload_n Ex Eb dX5_run_30 rfl (lv_at hl 0 rfl) ?_
  refine lv_iconst (v := iI 0) Ex Eb dX5_run_31 rfl ?_
  refine lo_put E hK hw huRX5 tyX5 tyX5_ok nmX5 12 hf44 rfl 0 rfl rfl (by decide) rfl rfl rfl rfl (Nat.le_of_ble_eq_true rfl) (ws' := [oX5 xc xt (a 0) 0 0 0 a1 a2 a3 s1 s2 s3 kt 0 eo, oX6 xt tt tn 0 ts tk tv, arB X tt 500 (sB T), arI X a1 3 f1, arI X a2 3 f2, arI X a3 3 f3, oX3 (a 0) (a 1) (a 2) 0, arN X (a 1) 6 b, oX0 (a 2) (a 3) (a 4) (a 5) 0 0, arI X (a 3) 20 (Pa P), arI X (a 4) 20 (Pb P), arI X (a 5) 20 (Pd P)] ++ ((lsW b (PL P)))) rfl dX5_run_32 (fun H locs hw => ?_)
  refine lv_aload_n Ex Eb dX5_run_35 rfl (lv_at hl 0 rfl) ?_
  refine lv_iconst (v := iI (-1)) Ex Eb dX5_run_36 rfl ?_
  refine lo_put E hK hw huRX5 tyX5 tyX5_ok nmX5 13 hf47 rfl 0 rfl rfl (by decide) rfl rfl rfl rfl (Nat.le_of_ble_eq_true rfl) (ws' := [oX5 xc xt (a 0) 0 0 0 a1 a2 a3 s1 s2 s3 kt 0 (-1), oX6 xt tt tn 0 ts tk tv, arB X tt 500 (sB T), arI X a1 3 f1, arI X a2 3 f2, arI X a3 3 f3, oX3 (a 0) (a 1) (a 2) 0, arN X (a 1) 6 b, oX0 (a 2) (a 3) (a 4) (a 5) 0 0, arI X (a 3) 20 (Pa P), arI X (a 4) 20 (Pb P), arI X (a 5) 20 (Pd P)] ++ ((lsW b (PL P)))) rfl dX5_run_37 (fun H locs hw => ?_)
  refine lv_aload_n Ex Eb dX5_run_40 rfl (lv_at hl 0 rfl) ?_
  refine lo_callVE (q0 := 0) (rest := []) E hK hw hV (kX5_expectLoans_r l X kS xc (a 0) a1 a2 a3 0 0 0 s1 s2 s3 kt 0 (-1) xt tt tn 0 ts tk tv T (ht) (hT) (by omega) (hv) (by omega)) (cwV 0 E.2.2.2.2 gX5_run_X5_expectLoans rfl rfl rfl (by decide +kernel) ⟨Nat.le_of_ble_eq_true rfl, Nat.le_of_ble_eq_true rfl⟩) rfl rfl [0, 1, 2] rfl (by decide) hl.1 rfl rfl (Nat.le_of_ble_eq_true rfl) dX5_run_41 ⟨Nat.le_of_ble_eq_true rfl, Nat.le_of_ble_eq_true rfl⟩ (fun v w1 H locs hq hw => ?_)
  obtain ⟨na1, nb2, nk3, ng4, ke5, ko6, q41_0, q41_1, q41_2, rfl, rfl⟩ := hq
  have hw : lo_Wd X ([oX5 xc xt (a 0) 0 0 0 a1 a2 a3 s1 s2 s3 kt ke5 ko6, oX6 xt tt tn na1 nb2 nk3 ng4, arB X tt 500 (sB T), arI X a1 3 f1, arI X a2 3 f2, arI X a3 3 f3, oX3 (a 0) (a 1) (a 2) 0, arN X (a 1) 6 b, oX0 (a 2) (a 3) (a 4) (a 5) 0 0, arI X (a 3) 20 (Pa P), arI X (a 4) 20 (Pb P), arI X (a 5) 20 (Pd P)] ++ ((lsW b (PL P)))) A9 s9.heap H locs := hw
  refine W.eq (g2 := F0 m9 44 ls []) rfl ?_
  refine lv_aload_n Ex Eb dX5_run_44 rfl (lv_at hl 0 rfl) ?_
  refine lv_bipush (v := iI 59) Ex Eb dX5_run_45 rfl ?_
  refine lo_callV (q0 := 0) (rest := []) E hK hw (kX5_expectSign l X xc (a 0) a1 a2 a3 0 0 0 s1 s2 s3 kt ke5 ko6 xt tt tn na1 nb2 nk3 ng4 T 59 (ht) (hT) (by omega) (by omega) (by omega) (by omega) (by omega)) (cwV 1 E.2.2.2.2 gX5_run_X5_expectSign rfl rfl rfl (by decide +kernel) ⟨Nat.le_of_ble_eq_true rfl, Nat.le_of_ble_eq_true rfl⟩) rfl rfl [0, 1, 2] rfl (by decide) hl.1 rfl rfl (Nat.le_of_ble_eq_true rfl) dX5_run_47 ⟨Nat.le_of_ble_eq_true rfl, Nat.le_of_ble_eq_true rfl⟩ (fun v w1 H locs hq hw => ?_)
  obtain ⟨na7, nb8, nk9, ng10, ke11, ko12, q47_0, q47_1, q47_2, rfl, rfl⟩ := hq
  have hw : lo_Wd X ([oX5 xc xt (a 0) 0 0 0 a1 a2 a3 s1 s2 s3 kt ke11 ko12, oX6 xt tt tn na7 nb8 nk9 ng10, arB X tt 500 (sB T), arI X a1 3 f1, arI X a2 3 f2, arI X a3 3 f3, oX3 (a 0) (a 1) (a 2) 0, arN X (a 1) 6 b, oX0 (a 2) (a 3) (a 4) (a 5) 0 0, arI X (a 3) 20 (Pa P), arI X (a 4) 20 (Pb P), arI X (a 5) 20 (Pd P)] ++ ((lsW b (PL P)))) A9 s9.heap H locs := hw
  refine W.eq (g2 := F0 m9 50 ls []) rfl ?_
  refine lv_iconst (v := iI 0) Ex Eb dX5_run_50 rfl ?_
  refine lv_istore_n (lv' := [(2, .int (iI 0)), (0, .ref xc), (1, .int (iI tn))]) Ex Eb dX5_run_51 rfl hl (by decide) rfl (fun ls hl => ?_)
  have lp52 : ∀ (n : Nat) (ix up us uk uv ue ux ud u1 u2 u3 ut uq uo : Int) (F1 F2 F3 : Nat → Int) (R : PT), (1000000 - ix).toNat < n → (0 ≤ ix ∧ ix ≤ 1000000) → (RI T tn (scS T tn f1 f2 f3) ix ue ux ud F1 F2 F3 up uq uo R) → ((0 ≤ up ∧ up ≤ tn) ∧ (0 ≤ us ∧ us ≤ tn) ∧ (0 ≤ uk ∧ uk ≤ 4) ∧ (0 ≤ uv ∧ uv ≤ 9999999) ∧ (0 ≤ uq ∧ uq ≤ 9)) → (0 ≤ ue ∧ ue ≤ 1) → (uq = 0 → uo = -1) → ∀ (H : Heap) (locs : List Loc) (ls : Array Slot), lo_Wd X ([oX5 xc xt (a 0) ue ux ud a1 a2 a3 u1 u2 u3 ut uq uo, oX6 xt tt tn up us uk uv, arB X tt 500 (sB T), arI X a1 3 F1, arI X a2 3 F2, arI X a3 3 F3, oX3 (a 0) (a 1) (a 2) (Pn R), arN X (a 1) 6 b, oX0 (a 2) (a 3) (a 4) (a 5) (Px R) (Pk R), arI X (a 3) 20 (Pa R), arI X (a 4) 20 (Pb R), arI X (a 5) 20 (Pd R)] ++ ((lsW b (PL R)))) A9 s9.heap H locs → lv_has ls 4 [(0, .ref xc), (1, .int (iI tn)), (2, .int (iI ix))] → W p9 l e9 ({ frames := 7, cells := 0, slots := 0, locals := 269 } : Room) s9 m9 ([.ref xc, .int (iI tn)] : List Value).toArray bl9 me9 c9 H locs 0 0 (MQ bl9 (lo_Qc X ([oX5 xc xt (a 0) en ex dp a1 a2 a3 s1 s2 s3 kt ek eo, oX6 xt tt n0 tp ts tk tv, arB X tt 500 (sB T), arI X a1 3 f1, arI X a2 3 f2, arI X a3 3 f3, oX3 (a 0) (a 1) (a 2) (Pn P), arN X (a 1) 6 b, oX0 (a 2) (a 3) (a 4) (a 5) (Px P) (Pk P), arI X (a 3) 20 (Pa P), arI X (a 4) 20 (Pb P), arI X (a 5) 20 (Pd P)] ++ ((lsW b (PL P)))) s9.heap.size (fun v9 w9 => ∃ qp : Int, ∃ qs : Int, ∃ qk : Int, ∃ qv : Int, ∃ qe : Int, ∃ qx : Int, ∃ qd : Int, ∃ q1 : Int, ∃ q2 : Int, ∃ q3 : Int, ∃ qt : Int, ∃ ke : Int, ∃ ko : Int, ∃ G1 : Nat → Int, ∃ G2 : Nat → Int, ∃ G3 : Nat → Int, ∃ Q : PT, (SCO T tn (scS T tn f1 f2 f3) ke ko Q) ∧ (0 ≤ qv ∧ qv ≤ 9999999) ∧ (0 ≤ ke ∧ ke ≤ 9) ∧ (ke = 0 → ko = -1) ∧ v9 = none ∧ w9 = [oX5 xc xt (a 0) qe qx qd a1 a2 a3 q1 q2 q3 qt ke ko, oX6 xt tt tn qp qs qk qv, arB X tt 500 (sB T), arI X a1 3 G1, arI X a2 3 G2, arI X a3 3 G3, oX3 (a 0) (a 1) (a 2) (Pn Q), arN X (a 1) 6 b, oX0 (a 2) (a 3) (a 4) (a 5) (Px Q) (Pk Q), arI X (a 3) 20 (Pa Q), arI X (a 4) 20 (Pb Q), arI X (a 5) 20 (Pd Q)] ++ ((lsW b (PL Q))))) ([.ref xc, .int (iI tn)] : List Value).toArray s9 0 0 A9) (F0 m9 52 ls []) := by
    intro n
    induction n with
    | zero => intro ix up us uk uv ue ux ud u1 u2 u3 ut uq uo F1 F2 F3 R hn; exact absurd hn (Nat.not_lt_zero _)
    | succ n ih52 =>
      intro ix up us uk uv ue ux ud u1 u2 u3 ut uq uo F1 F2 F3 R hn52 iv52_0 iv52_1 iv52_2 iv52_3 iv52_4 H locs ls hw hl
      refine lv_iload_n Ex Eb dX5_run_52 rfl (lv_at hl 2 rfl) ?_
      refine lo_ldc (z := 1000000) E hc79 dX5_run_53 rfl ?_
      refine lo_icmp_ge (tgt := 108) E dX5_run_55 (by decide) (by omega) (by omega) (fun c13 => ?_) (fun c13 => ?_)
      · skip
        exact lo_vret E hRt hLk hK hAe hw dX5_run_108 rfl ⟨up, us, uk, uv, ue, ux, ud, u1, u2, u3, ut, uq, uo, F1, F2, F3, R, (RI_end iv52_1 (by omega) (by omega)), (by omega), (by omega), (iv52_4), rfl, rfl⟩
      · skip
        refine lv_aload_n Ex Eb dX5_run_58 rfl (lv_at hl 0 rfl) ?_
        refine lo_get E hK hw huRX5 2 hf9 rfl 0 rfl rfl (by decide) (v := .int (iI ue)) rfl dX5_run_59 ?_
        refine lo_if_ne (tgt := 108) E dX5_run_62 (by decide) (by omega) (fun c14 => ?_) (fun c14 => ?_)
        · skip
          exact lo_vret E hRt hLk hK hAe hw dX5_run_108 rfl ⟨up, us, uk, uv, ue, ux, ud, u1, u2, u3, ut, uq, uo, F1, F2, F3, R, (RI_end iv52_1 (by omega) (by omega)), (by omega), (by omega), (iv52_4), rfl, rfl⟩
        · skip
          refine lv_aload_n Ex Eb dX5_run_65 rfl (lv_at hl 0 rfl) ?_
          refine lo_get E hK hw huRX5 12 hf44 rfl 0 rfl rfl (by decide) (v := .int (iI uq)) rfl dX5_run_66 ?_
          refine lo_if_ne (tgt := 108) E dX5_run_69 (by decide) (by omega) (fun c15 => ?_) (fun c15 => ?_)
          · skip
            exact lo_vret E hRt hLk hK hAe hw dX5_run_108 rfl ⟨up, us, uk, uv, ue, ux, ud, u1, u2, u3, ut, uq, uo, F1, F2, F3, R, (RI_end iv52_1 (by omega) (by omega)), (by omega), (by omega), (iv52_4), rfl, rfl⟩
          · skip
            obtain rfl : ue = 0 := by omega
            obtain rfl : uq = 0 := by omega
            have hw : lo_Wd X ([oX5 xc xt (a 0) 0 ux ud a1 a2 a3 u1 u2 u3 ut 0 uo, oX6 xt tt tn up us uk uv, arB X tt 500 (sB T), arI X a1 3 F1, arI X a2 3 F2, arI X a3 3 F3, oX3 (a 0) (a 1) (a 2) (Pn R), arN X (a 1) 6 b, oX0 (a 2) (a 3) (a 4) (a 5) (Px R) (Pk R), arI X (a 3) 20 (Pa R), arI X (a 4) 20 (Pb R), arI X (a 5) 20 (Pd R)] ++ ((lsW b (PL R)))) A9 s9.heap H locs := hw
            obtain ⟨hx9, hd9, hAV, hMZ, w, hPW, hRc⟩ := RI_r iv52_1
            have hnn : 0 ≤ Pn R ∧ Pn R ≤ 6 := hPW.1.1
            refine lv_aload_n Ex Eb dX5_run_72 rfl (lv_at hl 0 rfl) ?_
            refine lo_callVE (q0 := 0) (rest := []) E hK hw hV (kX5_readCommand l X kS xc (a 0) a1 a2 a3 ux ud u1 u2 u3 ut uo xt tt tn up us uk uv T F1 F2 F3 (ht) (hT) (by omega) (by omega) (by omega) (hd9) (hx9) (hAV)) (cwV 0 E.2.2.2.2 gX5_run_X5_readCommand rfl rfl rfl (by decide +kernel) ⟨Nat.le_of_ble_eq_true rfl, Nat.le_of_ble_eq_true rfl⟩) rfl rfl [0, 1, 2, 3, 4, 5] rfl (by decide) hl.1 rfl rfl (Nat.le_of_ble_eq_true rfl) dX5_run_73 ⟨Nat.le_of_ble_eq_true rfl, Nat.le_of_ble_eq_true rfl⟩ (fun v w1 H locs hq hw => ?_)
            obtain ⟨va, vb, vk, vg, ve, vo, vd, V1, V2, V3, cz, vx, q73_0, q73_1, q73_2, rfl, rfl⟩ := hq
            have hw : lo_Wd X ([oX5 xc xt (a 0) vx ux vd a1 a2 a3 u1 u2 u3 ut ve vo, oX6 xt tt tn va vb vk vg, arB X tt 500 (sB T), arI X a1 3 V1, arI X a2 3 V2, arI X a3 3 V3, oX3 (a 0) (a 1) (a 2) (Pn R), arN X (a 1) 6 b, oX0 (a 2) (a 3) (a 4) (a 5) (Px R) (Pk R), arI X (a 3) 20 (Pa R), arI X (a 4) 20 (Pb R), arI X (a 5) 20 (Pd R)] ++ ((lsW b (PL R)))) A9 s9.heap H locs := hw
            refine W.eq (g2 := F0 m9 76 ls [.int (iI cz)]) rfl ?_
            refine lv_istore_n (lv' := [(3, .int (iI cz)), (0, .ref xc), (1, .int (iI tn)), (2, .int (iI ix))]) Ex Eb dX5_run_76 rfl hl (by decide) rfl (fun ls hl => ?_)
            refine lv_iload_n Ex Eb dX5_run_77 rfl (lv_at hl 0 rfl) ?_
            refine lo_if_eq (tgt := 86) E dX5_run_78 (by decide) (by omega) (fun c16 => ?_) (fun c16 => ?_)
            · skip
              refine lv_iload_n Ex Eb dX5_run_86 rfl (lv_at hl 0 rfl) ?_
              refine lo_if_eq (tgt := 102) E dX5_run_87 (by decide) (by omega) (fun c17 => ?_) (fun c17 => ?_)
              · skip
                refine lo_iinc (lv' := [(2, .int (iI (ix + 1))), (3, .int (iI cz)), (0, .ref xc), (1, .int (iI tn))]) E dX5_run_102 hl (k := 3) rfl (by decide) rfl (fun ls hl => ?_)
                refine lv_goto (tgt := 52) Ex Eb dX5_run_105 (by decide) ?_
                exact ih52 (ix + 1) va vb vk vg vx ux vd u1 u2 u3 ut ve vo V1 V2 V3 R (by omega) (by omega) (by first | exact RI_rc (by omega) (by omega) (by omega) hx9 (by omega) hMZ hPW hRc q73_0 | exact RI_pe (by omega) hPW rfl hRc q73_0 q83_0 (by omega) | exact RI_ex (by omega) (by omega) hMZ (by omega) hd9 hAV hPW rfl hRc q73_0 hy1 hy6 hy7 q99_0 | (exfalso; omega)) (by omega) (by omega) (fun h9 => by first | exact (q73_2 h9).trans (iv52_4 rfl) | exact (EXE_o q99_0 h9).trans (hy9.trans ((q73_2 (by omega)).trans (iv52_4 rfl))) | (exfalso; omega)) _ _ _ hw (lv_sub hl [2, 3, 0] rfl)
              · exact absurd c17 (by omega)
            · skip
              have hzz := RCM_z (by omega) q73_0
              obtain ⟨e1, e2, e3, e4, e5, e6, e7, e8, e9x, -, -, -⟩ := hzz
              refine lv_aload_n Ex Eb dX5_run_81 rfl (lv_at hl 1 rfl) ?_
              refine lv_iload_n Ex Eb dX5_run_82 rfl (lv_at hl 0 rfl) ?_
              refine lo_callVE (q0 := 0) (rest := []) E hK hw hV (kX5_readNumbers l X kS xc (a 0) a1 a2 a3 vx ux vd u1 u2 u3 ut ve vo xt tt tn va vb vk vg T (a 1) (a 2) (Pn R) cz (ht) (hT) (by omega) (by omega) (by omega) (by omega) (by omega) (by omega) (by omega)) (cwV 1 E.2.2.2.2 gX5_run_X5_readNumbers rfl rfl rfl (by decide +kernel) ⟨Nat.le_of_ble_eq_true rfl, Nat.le_of_ble_eq_true rfl⟩) rfl rfl [0, 1, 2, 6] rfl (by decide) hl.1 rfl rfl (Nat.le_of_ble_eq_true rfl) dX5_run_83 ⟨Nat.le_of_ble_eq_true rfl, Nat.le_of_ble_eq_true rfl⟩ (fun v w1 H locs hq hw => ?_)
              obtain ⟨na18, nb19, nk20, ng21, rk, ko22, z123, z224, z325, kq26, q83_0, q83_1, rfl, rfl⟩ := hq
              have hw : lo_Wd X ([oX5 xc xt (a 0) vx ux vd a1 a2 a3 z123 z224 z325 kq26 rk ko22, oX6 xt tt tn na18 nb19 nk20 ng21, arB X tt 500 (sB T), arI X a1 3 V1, arI X a2 3 V2, arI X a3 3 V3, oX3 (a 0) (a 1) (a 2) (Pn R), arN X (a 1) 6 b, oX0 (a 2) (a 3) (a 4) (a 5) (Px R) (Pk R), arI X (a 3) 20 (Pa R), arI X (a 4) 20 (Pb R), arI X (a 5) 20 (Pd R)] ++ ((lsW b (PL R)))) A9 s9.heap H locs := hw
              refine W.eq (g2 := F0 m9 86 ls []) rfl ?_
              refine lv_iload_n Ex Eb dX5_run_86 rfl (lv_at hl 0 rfl) ?_
              refine lo_if_eq (tgt := 102) E dX5_run_87 (by decide) (by omega) (fun c27 => ?_) (fun c27 => ?_)
              · exact absurd c27 (by omega)
              · skip
                refine lv_aload_n Ex Eb dX5_run_90 rfl (lv_at hl 1 rfl) ?_
                refine lo_get E hK hw huRX5 12 hf44 rfl 0 rfl rfl (by decide) (v := .int (iI rk)) rfl dX5_run_91 ?_
                refine lo_if_ne (tgt := 102) E dX5_run_94 (by decide) (by omega) (fun c28 => ?_) (fun c28 => ?_)
                · skip
                  refine lo_iinc (lv' := [(2, .int (iI (ix + 1))), (3, .int (iI cz)), (0, .ref xc), (1, .int (iI tn))]) E dX5_run_102 hl (k := 3) rfl (by decide) rfl (fun ls hl => ?_)
                  refine lv_goto (tgt := 52) Ex Eb dX5_run_105 (by decide) ?_
                  exact ih52 (ix + 1) na18 nb19 nk20 ng21 vx ux vd z123 z224 z325 kq26 rk ko22 V1 V2 V3 R (by omega) (by omega) (by first | exact RI_rc (by omega) (by omega) (by omega) hx9 (by omega) hMZ hPW hRc q73_0 | exact RI_pe (by omega) hPW rfl hRc q73_0 q83_0 (by omega) | exact RI_ex (by omega) (by omega) hMZ (by omega) hd9 hAV hPW rfl hRc q73_0 hy1 hy6 hy7 q99_0 | (exfalso; omega)) (by omega) (by omega) (fun h9 => by first | exact (q73_2 h9).trans (iv52_4 rfl) | exact (EXE_o q99_0 h9).trans (hy9.trans ((q73_2 (by omega)).trans (iv52_4 rfl))) | (exfalso; omega)) _ _ _ hw (lv_sub hl [2, 3, 0] rfl)
                · skip
                  obtain rfl : rk = 0 := by omega
                  have hw : lo_Wd X ([oX5 xc xt (a 0) vx ux vd a1 a2 a3 z123 z224 z325 kq26 0 ko22, oX6 xt tt tn na18 nb19 nk20 ng21, arB X tt 500 (sB T), arI X a1 3 V1, arI X a2 3 V2, arI X a3 3 V3, oX3 (a 0) (a 1) (a 2) (Pn R), arN X (a 1) 6 b, oX0 (a 2) (a 3) (a 4) (a 5) (Px R) (Pk R), arI X (a 3) 20 (Pa R), arI X (a 4) 20 (Pb R), arI X (a 5) 20 (Pd R)] ++ ((lsW b (PL R)))) A9 s9.heap H locs := hw
                  have hyy := q83_0.resolve_right (fun h => h.2 (by omega))
                  obtain ⟨y, hy1, hy2, hy3, hy4, hy5, hy6, hy7, hy8, hy9⟩ := hyy
                  have hpr := prm_r ⟨e1, e2⟩ (by omega) hy1
                  refine lv_aload_n Ex Eb dX5_run_97 rfl (lv_at hl 1 rfl) ?_
                  refine lv_iload_n Ex Eb dX5_run_98 rfl (lv_at hl 0 rfl) ?_
                  refine lo_callV (q0 := 0) (rest := []) E hK hw (kX5_execute l X xc a1 a2 a3 vx ux vd z123 z224 z325 kq26 ko22 xt tt tn na18 nb19 nk20 ng21 a b R w y cz (hPW) (⟨e1, e2⟩) (hpr.2) (hy2) (hy3) (hy4) (hy5) (by omega)) (cwV 1 E.2.2.2.2 gX5_run_X5_execute rfl rfl rfl (by decide +kernel) ⟨Nat.le_of_ble_eq_true rfl, Nat.le_of_ble_eq_true rfl⟩) rfl rfl [0, 1, 6, 7, 8, 9, 10, 11, 12, 13, 14, 15, 16, 17] rfl (by decide) hl.1 rfl rfl (Nat.le_of_ble_eq_true rfl) dX5_run_99 ⟨Nat.le_of_ble_eq_true rfl, Nat.le_of_ble_eq_true rfl⟩ (fun v w1 H locs hq hw => ?_)
                  obtain ⟨Q29, ke30, ko31, q99_0, q99_1, rfl, rfl⟩ := hq
                  have hw : lo_Wd X ([oX5 xc xt (a 0) vx (ux + 1) vd a1 a2 a3 z123 z224 z325 kq26 ke30 ko31, oX6 xt tt tn na18 nb19 nk20 ng21, arB X tt 500 (sB T), arI X a1 3 V1, arI X a2 3 V2, arI X a3 3 V3, oX3 (a 0) (a 1) (a 2) (Pn Q29), arN X (a 1) 6 b, oX0 (a 2) (a 3) (a 4) (a 5) (Px Q29) (Pk Q29), arI X (a 3) 20 (Pa Q29), arI X (a 4) 20 (Pb Q29), arI X (a 5) 20 (Pd Q29)] ++ ((lsW b (PL Q29)))) A9 s9.heap H locs := hw
                  refine W.eq (g2 := F0 m9 102 ls []) rfl ?_
                  refine lo_iinc (lv' := [(2, .int (iI (ix + 1))), (3, .int (iI cz)), (0, .ref xc), (1, .int (iI tn))]) E dX5_run_102 hl (k := 3) rfl (by decide) rfl (fun ls hl => ?_)
                  refine lv_goto (tgt := 52) Ex Eb dX5_run_105 (by decide) ?_
                  exact ih52 (ix + 1) na18 nb19 nk20 ng21 vx (ux + 1) vd z123 z224 z325 kq26 ke30 ko31 V1 V2 V3 Q29 (by omega) (by omega) (by first | exact RI_rc (by omega) (by omega) (by omega) hx9 (by omega) hMZ hPW hRc q73_0 | exact RI_pe (by omega) hPW rfl hRc q73_0 q83_0 (by omega) | exact RI_ex (by omega) (by omega) hMZ (by omega) hd9 hAV hPW rfl hRc q73_0 hy1 hy6 hy7 q99_0 | (exfalso; omega)) (by omega) (by omega) (fun h9 => by first | exact (q73_2 h9).trans (iv52_4 rfl) | exact (EXE_o q99_0 h9).trans (hy9.trans ((q73_2 (by omega)).trans (iv52_4 rfl))) | (exfalso; omega)) _ _ _ hw (lv_sub hl [2, 3, 0] rfl)
  exact lp52 _ 0 na7 nb8 nk9 ng10 0 0 0 s1 s2 s3 kt ke11 ko12 f1 f2 f3 (0, PL P, 0, 0, Pa P, Pb P, Pd P) (Nat.lt_succ_self _) (by omega) (RI_0 hPI q41_0 q41_2 ⟨q47_0, q47_2⟩ (by omega)) (by omega) (by omega) (fun h9 => by omega) _ _ _ hw (lv_sub hl [1, 2, 0] rfl)
