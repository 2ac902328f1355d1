set_option maxHeartbeats 4000000 in
set_option maxRecDepth 100000 in
theorem kX5_fail (l : Launch) (X : KX) (xc tg a1 a2 a3 : Nat) (en ex dp s1 s2 s3 kt ek eo : Int) (xt tt : Nat) (tn tp ts tk tv : Int) (c : Int) : CM l X yX5_fail wsX5_fail ({ frames := 0, cells := 0, slots := 0, locals := 0 }) [.ref xc, .int (iI c)] ([oX5 xc xt tg en ex dp a1 a2 a3 s1 s2 s3 kt ek eo, oX6 xt tt tn tp ts tk tv]) (fun v9 w9 => v9 = none ∧ w9 = [oX5 xc xt tg en ex dp a1 a2 a3 s1 s2 s3 kt c ts, oX6 xt tt tn tp ts tk tv]) 0 0 := by
  refine lo_enter (cc := cX5_fail) (maxL := 2) (ret := none) (lv := [(0, .ref xc), (1, .int (iI c))]) (by decide) rfl rfl (Nat.le_of_ble_eq_true rfl) ?_
  intro p9 e9 s9 m9 bl9 me9 c9 A9 ls hAe E hRt hLk hK hl hw
  have Ex := E.1
  have Eb := E.2.1
  have huRX5 : ∀ w ∈ u_ws RX5 TX5 14, w ∈ wsX5_fail := by decide +kernel
  have hf44 : (Cond.fieldLink RX5 44 "LoanSchedule$Script" "errorKind" "I").before _ s9 = true := E.2.2.2.2 _ (List.mem_of_getElem? (i := 1) rfl)
  have hf55 : (Cond.fieldLink RX5 55 "LoanSchedule$Script" "tokens" "LLoanSchedule$Tokens;").before _ s9 = true := E.2.2.2.2 _ (List.mem_of_getElem? (i := 2) rfl)
  have huRX6 : ∀ w ∈ u_ws RX6 TX6 6, w ∈ wsX5_fail := by decide +kernel
  have hf90 : (Cond.fieldLink RX5 90 "LoanSchedule$Tokens" "start" "I").before _ s9 = true := E.2.2.2.2 _ (List.mem_of_getElem? (i := 3) rfl)
  have hf47 : (Cond.fieldLink RX5 47 "LoanSchedule$Script" "errorOffset" "I").before _ s9 = true := E.2.2.2.2 _ (List.mem_of_getElem? (i := 4) rfl)
  refine lv_aload_n Ex Eb dX5_fail_0 rfl (lv_at hl 0 rfl) ?_
  refine lv_iload_n Ex Eb dX5_fail_1 rfl (lv_at hl 1 rfl) ?_
  refine lo_put E hK hw huRX5 tyX5 tyX5_ok nmX5 12 hf44 rfl 0 rfl rfl (by decide) rfl rfl rfl rfl (Nat.le_of_ble_eq_true rfl) (ws' := [oX5 xc xt tg en ex dp a1 a2 a3 s1 s2 s3 kt c eo, oX6 xt tt tn tp ts tk tv]) rfl dX5_fail_2 (fun H locs hw => ?_)
  refine lv_aload_n Ex Eb dX5_fail_5 rfl (lv_at hl 0 rfl) ?_
  refine lv_aload_n Ex Eb dX5_fail_6 rfl (lv_at hl 0 rfl) ?_
  refine lo_get E hK hw huRX5 0 hf55 rfl 0 rfl rfl (by decide) (v := .ref xt) rfl dX5_fail_7 ?_
  refine lo_get E hK hw huRX6 3 hf90 rfl 1 rfl rfl (by decide) (v := .int (iI ts)) rfl dX5_fail_10 ?_
  refine lo_put E hK hw huRX5 tyX5 tyX5_ok nmX5 13 hf47 rfl 0 rfl rfl (by decide) rfl rfl rfl rfl (Nat.le_of_ble_eq_true rfl) (ws' := [oX5 xc xt tg en ex dp a1 a2 a3 s1 s2 s3 kt c ts, oX6 xt tt tn tp ts tk tv]) rfl dX5_fail_13 (fun H locs hw => ?_)
  exact lo_vret E hRt hLk hK hAe hw dX5_fail_16 rfl ⟨rfl, rfl⟩
set_option maxHeartbeats 4000000 in
set_option maxRecDepth 100000 in
theorem kX5_expectSign (l : Launch) (X : KX) (xc tg a1 a2 a3 : Nat) (en ex dp s1 s2 s3 kt ek eo : Int) (xt tt : Nat) (tn tp ts tk tv : Int) (T : Nat → Int) (x : Int) (ht : 0 ≤ tn ∧ tn ≤ 500) (hT : ∀ k : Nat, 0 ≤ T k ∧ T k ≤ 255) (hp : 0 ≤ ts ∧ ts ≤ tp ∧ tp ≤ tn) (hk : 0 ≤ tk ∧ tk ≤ 4) (hv : 0 ≤ tv ∧ tv ≤ 9999999) (he : 0 ≤ ek ∧ ek ≤ 9) (hx : 0 ≤ x ∧ x ≤ 127) : CM l X yX5_expectSign wsX5_expectSign ({ frames := 3, cells := 0, slots := 0, locals := 62 }) [.ref xc, .int (iI x)] ([oX5 xc xt tg en ex dp a1 a2 a3 s1 s2 s3 kt ek eo, oX6 xt tt tn tp ts tk tv, arB X tt 500 (sB T)]) (fun v9 w9 => ∃ na : Int, ∃ nb : Int, ∃ nk : Int, ∃ ng : Int, ∃ ke : Int, ∃ ko : Int, (SCA T tn tp ts tk tv na nb nk ng ek) ∧ ((0 ≤ nb ∧ nb ≤ na ∧ na ≤ tn) ∧ (0 ≤ nk ∧ nk ≤ 4) ∧ (0 ≤ ng ∧ ng ≤ 9999999) ∧ 0 ≤ ke ∧ ke ≤ 9) ∧ ((ek ≠ 0 ∧ ke = ek ∧ ko = eo) ∨ (ek = 0 ∧ (nk = 3 ∧ nb < tn ∧ T nb.toNat = x) ∧ ke = 0 ∧ ko = eo) ∨ (ek = 0 ∧ ¬ (nk = 3 ∧ nb < tn ∧ T nb.toNat = x) ∧ ke = 1 ∧ ko = nb)) ∧ v9 = none ∧ w9 = [oX5 xc xt tg en ex dp a1 a2 a3 s1 s2 s3 kt ke ko, oX6 xt tt tn na nb nk ng, arB X tt 500 (sB T)]) 0 0 := by
  refine lo_enter (cc := cX5_expectSign) (maxL := 2) (ret := none) (lv := [(0, .ref xc), (1, .int (iI x))]) (by decide) rfl rfl (Nat.le_of_ble_eq_true rfl) ?_
  intro p9 e9 s9 m9 bl9 me9 c9 A9 ls hAe E hRt hLk hK hl hw
  have Ex := E.1
  have Eb := E.2.1
  have huRX5 : ∀ w ∈ u_ws RX5 TX5 14, w ∈ wsX5_expectSign := by decide +kernel
  have hf44 : (Cond.fieldLink RX5 44 "LoanSchedule$Script" "errorKind" "I").before _ s9 = true := E.2.2.2.2 _ (List.mem_of_getElem? (i := 1) rfl)
  have hf55 : (Cond.fieldLink RX5 55 "LoanSchedule$Script" "tokens" "LLoanSchedule$Tokens;").before _ s9 = true := E.2.2.2.2 _ (List.mem_of_getElem? (i := 2) rfl)
  refine lv_aload_n Ex Eb dX5_expectSign_0 rfl (lv_at hl 0 rfl) ?_
  refine lo_get E hK hw huRX5 12 hf44 rfl 0 rfl rfl (by decide) (v := .int (iI ek)) rfl dX5_expectSign_1 ?_
  refine lo_if_eq (tgt := 8) E dX5_expectSign_4 (by decide) (by omega) (fun c1 => ?_) (fun c1 => ?_)
  · skip
    refine lv_aload_n Ex Eb dX5_expectSign_8 rfl (lv_at hl 0 rfl) ?_
    refine lo_get E hK hw huRX5 0 hf55 rfl 0 rfl rfl (by decide) (v := .ref xt) rfl dX5_expectSign_9 ?_
    refine lo_callV (q0 := 1) (rest := []) E hK hw (kX6_advance l X xt tt tn tp ts tk tv T (ht) (hT) (by omega) (hv)) (cwV 0 E.2.2.2.2 gX5_expectSign_X6_advance rfl rfl rfl (by decide +kernel) ⟨Nat.le_of_ble_eq_true rfl, Nat.le_of_ble_eq_true rfl⟩) rfl rfl [1, 2] rfl (by decide) hl.1 rfl rfl (Nat.le_of_ble_eq_true rfl) dX5_expectSign_12 ⟨Nat.le_of_ble_eq_true rfl, Nat.le_of_ble_eq_true rfl⟩ (fun v w1 H locs hq hw => ?_)
    obtain ⟨na2, nk3, ng4, q12_0, q12_1, rfl, rfl⟩ := hq
    have hw : lo_Wd X ([oX5 xc xt tg en ex dp a1 a2 a3 s1 s2 s3 kt ek eo, oX6 xt tt tn na2 (spE pSp T tn tp) nk3 ng4, arB X tt 500 (sB T)]) A9 s9.heap H locs := hw
    refine W.eq (g2 := F0 m9 15 ls []) rfl ?_
    have hnk := SCK_k q12_0
    have hsr := spE_r pSp (T := T) (n := tn) (x := tp) (by omega)
    refine lv_aload_n Ex Eb dX5_expectSign_15 rfl (lv_at hl 0 rfl) ?_
    refine lo_get E hK hw huRX5 0 hf55 rfl 0 rfl rfl (by decide) (v := .ref xt) rfl dX5_expectSign_16 ?_
    refine lv_iload_n Ex Eb dX5_expectSign_19 rfl (lv_at hl 1 rfl) ?_
    refine lo_callV (q0 := 1) (rest := []) E hK hw (kX6_isSign l X xt tt tn na2 (spE pSp T tn tp) nk3 ng4 T x (ht) (hT) (by omega) (hx) (by omega)) (cwV 1 E.2.2.2.2 gX5_expectSign_X6_isSign rfl rfl rfl (by decide +kernel) ⟨Nat.le_of_ble_eq_true rfl, Nat.le_of_ble_eq_true rfl⟩) rfl rfl [1, 2] rfl (by decide) hl.1 rfl rfl (Nat.le_of_ble_eq_true rfl) dX5_expectSign_20 ⟨Nat.le_of_ble_eq_true rfl, Nat.le_of_ble_eq_true rfl⟩ (fun v w1 H locs hq hw => ?_)
    obtain ⟨z5, q20_0, rfl, rfl⟩ := hq
    have hw : lo_Wd X ([oX5 xc xt tg en ex dp a1 a2 a3 s1 s2 s3 kt ek eo, oX6 xt tt tn na2 (spE pSp T tn tp) nk3 ng4, arB X tt 500 (sB T)]) A9 s9.heap H locs := hw
    refine W.eq (g2 := F0 m9 23 ls [.int (iI z5)]) rfl ?_
    refine lo_if_ne (tgt := 31) E dX5_expectSign_23 (by decide) (by omega) (fun c6 => ?_) (fun c6 => ?_)
    · skip
      exact lo_vret E hRt hLk hK hAe hw dX5_expectSign_31 rfl ⟨na2, spE pSp T tn tp, nk3, ng4, ek, eo, (by first | exact Or.inl ⟨by omega, rfl, rfl, rfl, rfl⟩ | exact Or.inr ⟨by omega, rfl, q12_0⟩), (by omega), (by omega), rfl, rfl⟩
    · skip
      refine lv_aload_n Ex Eb dX5_expectSign_26 rfl (lv_at hl 0 rfl) ?_
      refine lv_iconst (v := iI 1) Ex Eb dX5_expectSign_27 rfl ?_
      refine lo_callV (q0 := 0) (rest := []) E hK hw (kX5_fail l X xc tg a1 a2 a3 en ex dp s1 s2 s3 kt ek eo xt tt tn na2 (spE pSp T tn tp) nk3 ng4 1 ) (cwV 1 E.2.2.2.2 gX5_expectSign_X5_fail rfl rfl rfl (by decide +kernel) ⟨Nat.le_of_ble_eq_true rfl, Nat.le_of_ble_eq_true rfl⟩) rfl rfl [0, 1] rfl (by decide) hl.1 rfl rfl (Nat.le_of_ble_eq_true rfl) dX5_expectSign_28 ⟨Nat.le_of_ble_eq_true rfl, Nat.le_of_ble_eq_true rfl⟩ (fun v w1 H locs hq hw => ?_)
      obtain ⟨rfl, rfl⟩ := hq
      have hw : lo_Wd X ([oX5 xc xt tg en ex dp a1 a2 a3 s1 s2 s3 kt 1 (spE pSp T tn tp), oX6 xt tt tn na2 (spE pSp T tn tp) nk3 ng4, arB X tt 500 (sB T)]) A9 s9.heap H locs := hw
      refine W.eq (g2 := F0 m9 31 ls []) rfl ?_
      exact lo_vret E hRt hLk hK hAe hw dX5_expectSign_31 rfl ⟨na2, spE pSp T tn tp, nk3, ng4, 1, spE pSp T tn tp, (by first | exact Or.inl ⟨by omega, rfl, rfl, rfl, rfl⟩ | exact Or.inr ⟨by omega, rfl, q12_0⟩), (by omega), (by omega), rfl, rfl⟩
  · skip
    exact lo_vret E hRt hLk hK hAe hw dX5_expectSign_7 rfl ⟨tp, ts, tk, tv, ek, eo, (by first | exact Or.inl ⟨by omega, rfl, rfl, rfl, rfl⟩ | exact Or.inr ⟨by omega, rfl, q12_0⟩), (by omega), (by omega), rfl, rfl⟩
set_option maxHeartbeats 4000000 in
set_option maxRecDepth 100000 in
theorem kX5_expectNumber (l : Launch) (X : KX) (xc tg a1 a2 a3 : Nat) (en ex dp s1 s2 s3 kt ek eo : Int) (xt tt : Nat) (tn tp ts tk tv : Int) (T : Nat → Int) (lo hi : Int) (ht : 0 ≤ tn ∧ tn ≤ 500) (hT : ∀ k : Nat, 0 ≤ T k ∧ T k ≤ 255) (hp : 0 ≤ ts ∧ ts ≤ tp ∧ tp ≤ tn) (hk : 0 ≤ tk ∧ tk ≤ 4) (hv : 0 ≤ tv ∧ tv ≤ 9999999) (he : 0 ≤ ek ∧ ek ≤ 9) (hlo : i32 lo) (hhi : i32 hi) : CM l X yX5_expectNumber wsX5_expectNumber ({ frames := 3, cells := 0, slots := 0, locals := 62 }) [.ref xc, .int (iI lo), .int (iI hi)] ([oX5 xc xt tg en ex dp a1 a2 a3 s1 s2 s3 kt ek eo, oX6 xt tt tn tp ts tk tv, arB X tt 500 (sB T)]) (fun v9 w9 => ∃ na : Int, ∃ nb : Int, ∃ nk : Int, ∃ ng : Int, ∃ ke : Int, ∃ ko : Int, ∃ z : Int, (SCA T tn tp ts tk tv na nb nk ng ek) ∧ ((0 ≤ nb ∧ nb ≤ na ∧ na ≤ tn) ∧ (0 ≤ nk ∧ nk ≤ 4) ∧ (0 ≤ ng ∧ ng ≤ 9999999) ∧ 0 ≤ ke ∧ ke ≤ 9) ∧ ((ek ≠ 0 ∧ ke = ek ∧ ko = eo ∧ z = 0) ∨ (ek = 0 ∧ z = ng ∧ ((nk = 2 ∧ (lo ≤ ng ∧ ng ≤ hi) ∧ ke = 0 ∧ ko = eo) ∨ (nk = 2 ∧ ¬ (lo ≤ ng ∧ ng ≤ hi) ∧ ke = 2 ∧ ko = nb) ∨ (nk ≠ 2 ∧ ke = 1 ∧ ko = nb)))) ∧ v9 = some (.int (iI z)) ∧ w9 = [oX5 xc xt tg en ex dp a1 a2 a3 s1 s2 s3 kt ke ko, oX6 xt tt tn na nb nk ng, arB X tt 500 (sB T)]) 0 0 := by
  refine lo_enter (cc := cX5_expectNumber) (maxL := 3) (ret := (some .int)) (lv := [(0, .ref xc), (1, .int (iI lo)), (2, .int (iI hi))]) (by decide) rfl rfl (Nat.le_of_ble_eq_true rfl) ?_
  intro p9 e9 s9 m9 bl9 me9 c9 A9 ls hAe E hRt hLk hK hl hw
  have Ex := E.1
  have Eb := E.2.1
  have huRX5 : ∀ w ∈ u_ws RX5 TX5 14, w ∈ wsX5_expectNumber := by decide +kernel
  have hf44 : (Cond.fieldLink RX5 44 "LoanSchedule$Script" "errorKind" "I").before _ s9 = true := E.2.2.2.2 _ (List.mem_of_getElem? (i := 1) rfl)
  have hf55 : (Cond.fieldLink RX5 55 "LoanSchedule$Script" "tokens" "LLoanSchedule$Tokens;").before _ s9 = true := E.2.2.2.2 _ (List.mem_of_getElem? (i := 2) rfl)
  have huRX6 : ∀ w ∈ u_ws RX6 TX6 6, w ∈ wsX5_expectNumber := by decide +kernel
  have hf109 : (Cond.fieldLink RX5 109 "LoanSchedule$Tokens" "kind" "I").before _ s9 = true := E.2.2.2.2 _ (List.mem_of_getElem? (i := 3) rfl)
  have hf112 : (Cond.fieldLink RX5 112 "LoanSchedule$Tokens" "value" "I").before _ s9 = true := E.2.2.2.2 _ (List.mem_of_getElem? (i := 4) rfl)
  refine lv_aload_n Ex Eb dX5_expectNumber_0 rfl (lv_at hl 0 rfl) ?_
  refine lo_get E hK hw huRX5 12 hf44 rfl 0 rfl rfl (by decide) (v := .int (iI ek)) rfl dX5_expectNumber_1 ?_
  refine lo_if_eq (tgt := 9) E dX5_expectNumber_4 (by decide) (by omega) (fun c1 => ?_) (fun c1 => ?_)
  · skip
    refine lv_aload_n Ex Eb dX5_expectNumber_9 rfl (lv_at hl 0 rfl) ?_
    refine lo_get E hK hw huRX5 0 hf55 rfl 0 rfl rfl (by decide) (v := .ref xt) rfl dX5_expectNumber_10 ?_
    refine lo_callV (q0 := 1) (rest := []) E hK hw (kX6_advance l X xt tt tn tp ts tk tv T (ht) (hT) (by omega) (hv)) (cwV 0 E.2.2.2.2 gX5_expectNumber_X6_advance rfl rfl rfl (by decide +kernel) ⟨Nat.le_of_ble_eq_true rfl, Nat.le_of_ble_eq_true rfl⟩) rfl rfl [1, 2] rfl (by decide) hl.1 rfl rfl (Nat.le_of_ble_eq_true rfl) dX5_expectNumber_13 ⟨Nat.le_of_ble_eq_true rfl, Nat.le_of_ble_eq_true rfl⟩ (fun v w1 H locs hq hw => ?_)
    obtain ⟨na2, nk3, ng4, q13_0, q13_1, rfl, rfl⟩ := hq
    have hw : lo_Wd X ([oX5 xc xt tg en ex dp a1 a2 a3 s1 s2 s3 kt ek eo, oX6 xt tt tn na2 (spE pSp T tn tp) nk3 ng4, arB X tt 500 (sB T)]) A9 s9.heap H locs := hw
    refine W.eq (g2 := F0 m9 16 ls []) rfl ?_
    have hnk := SCK_k q13_0
    have hsr := spE_r pSp (T := T) (n := tn) (x := tp) (by omega)
    refine lv_aload_n Ex Eb dX5_expectNumber_16 rfl (lv_at hl 0 rfl) ?_
    refine lo_get E hK hw huRX5 0 hf55 rfl 0 rfl rfl (by decide) (v := .ref xt) rfl dX5_expectNumber_17 ?_
    refine lo_get E hK hw huRX6 4 hf109 rfl 1 rfl rfl (by decide) (v := .int (iI nk3)) rfl dX5_expectNumber_20 ?_
    refine lv_iconst (v := iI 2) Ex Eb dX5_expectNumber_23 rfl ?_
    refine lo_icmp_eq (tgt := 35) E dX5_expectNumber_24 (by decide) (by omega) (by omega) (fun c5 => ?_) (fun c5 => ?_)
    · skip
      refine lv_aload_n Ex Eb dX5_expectNumber_35 rfl (lv_at hl 0 rfl) ?_
      refine lo_get E hK hw huRX5 0 hf55 rfl 0 rfl rfl (by decide) (v := .ref xt) rfl dX5_expectNumber_36 ?_
      refine lo_get E hK hw huRX6 5 hf112 rfl 1 rfl rfl (by decide) (v := .int (iI ng4)) rfl dX5_expectNumber_39 ?_
      refine lv_iload_n Ex Eb dX5_expectNumber_42 rfl (lv_at hl 1 rfl) ?_
      refine lo_icmp_lt (tgt := 57) E dX5_expectNumber_43 (by decide) (by omega) (by omega) (fun c6 => ?_) (fun c6 => ?_)
      · skip
        refine lv_aload_n Ex Eb dX5_expectNumber_57 rfl (lv_at hl 0 rfl) ?_
        refine lv_iconst (v := iI 2) Ex Eb dX5_expectNumber_58 rfl ?_
        refine lo_callV (q0 := 0) (rest := []) E hK hw (kX5_fail l X xc tg a1 a2 a3 en ex dp s1 s2 s3 kt ek eo xt tt tn na2 (spE pSp T tn tp) nk3 ng4 2 ) (cwV 1 E.2.2.2.2 gX5_expectNumber_X5_fail rfl rfl rfl (by decide +kernel) ⟨Nat.le_of_ble_eq_true rfl, Nat.le_of_ble_eq_true rfl⟩) rfl rfl [0, 1] rfl (by decide) hl.1 rfl rfl (Nat.le_of_ble_eq_true rfl) dX5_expectNumber_59 ⟨Nat.le_of_ble_eq_true rfl, Nat.le_of_ble_eq_true rfl⟩ (fun v w1 H locs hq hw => ?_)
        obtain ⟨rfl, rfl⟩ := hq
        have hw : lo_Wd X ([oX5 xc xt tg en ex dp a1 a2 a3 s1 s2 s3 kt 2 (spE pSp T tn tp), oX6 xt tt tn na2 (spE pSp T tn tp) nk3 ng4, arB X tt 500 (sB T)]) A9 s9.heap H locs := hw
        refine W.eq (g2 := F0 m9 62 ls []) rfl ?_
        refine lv_aload_n Ex Eb dX5_expectNumber_62 rfl (lv_at hl 0 rfl) ?_
        refine lo_get E hK hw huRX5 0 hf55 rfl 0 rfl rfl (by decide) (v := .ref xt) rfl dX5_expectNumber_63 ?_
        refine lo_get E hK hw huRX6 5 hf112 rfl 1 rfl rfl (by decide) (v := .int (iI ng4)) rfl dX5_expectNumber_66 ?_
        exact lo_iret E hRt hLk hK hAe hw dX5_expectNumber_69 rfl ⟨na2, spE pSp T tn tp, nk3, ng4, 2, spE pSp T tn tp, ng4, (by first | exact Or.inl ⟨by omega, rfl, rfl, rfl, rfl⟩ | exact Or.inr ⟨by omega, rfl, q13_0⟩), (by omega), (by omega), rfl, rfl⟩
      · skip
        refine lv_aload_n Ex Eb dX5_expectNumber_46 rfl (lv_at hl 0 rfl) ?_
        refine lo_get E hK hw huRX5 0 hf55 rfl 0 rfl rfl (by decide) (v := .ref xt) rfl dX5_expectNumber_47 ?_
        refine lo_get E hK hw huRX6 5 hf112 rfl 1 rfl rfl (by decide) (v := .int (iI ng4)) rfl dX5_expectNumber_50 ?_
        refine lv_iload_n Ex Eb dX5_expectNumber_53 rfl (lv_at hl 2 rfl) ?_
        refine lo_icmp_le (tgt := 62) E dX5_expectNumber_54 (by decide) (by omega) (by omega) (fun c7 => ?_) (fun c7 => ?_)
        · skip
          refine lv_aload_n Ex Eb dX5_expectNumber_62 rfl (lv_at hl 0 rfl) ?_
          refine lo_get E hK hw huRX5 0 hf55 rfl 0 rfl rfl (by decide) (v := .ref xt) rfl dX5_expectNumber_63 ?_
          refine lo_get E hK hw huRX6 5 hf112 rfl 1 rfl rfl (by decide) (v := .int (iI ng4)) rfl dX5_expectNumber_66 ?_
          exact lo_iret E hRt hLk hK hAe hw dX5_expectNumber_69 rfl ⟨na2, spE pSp T tn tp, nk3, ng4, ek, eo, ng4, (by first | exact Or.inl ⟨by omega, rfl, rfl, rfl, rfl⟩ | exact Or.inr ⟨by omega, rfl, q13_0⟩), (by omega), (by omega), rfl, rfl⟩
        · skip
          refine lv_aload_n Ex Eb dX5_expectNumber_57 rfl (lv_at hl 0 rfl) ?_
          refine lv_iconst (v := iI 2) Ex Eb dX5_expectNumber_58 rfl ?_
          refine lo_callV (q0 := 0) (rest := []) E hK hw (kX5_fail l X xc tg a1 a2 a3 en ex dp s1 s2 s3 kt ek eo xt tt tn na2 (spE pSp T tn tp) nk3 ng4 2 ) (cwV 1 E.2.2.2.2 gX5_expectNumber_X5_fail rfl rfl rfl (by decide +kernel) ⟨Nat.le_of_ble_eq_true rfl, Nat.le_of_ble_eq_true rfl⟩) rfl rfl [0, 1] rfl (by decide) hl.1 rfl rfl (Nat.le_of_ble_eq_true rfl) dX5_expectNumber_59 ⟨Nat.le_of_ble_eq_true rfl, Nat.le_of_ble_eq_true rfl⟩ (fun v w1 H locs hq hw => ?_)
          obtain ⟨rfl, rfl⟩ := hq
          have hw : lo_Wd X ([oX5 xc xt tg en ex dp a1 a2 a3 s1 s2 s3 kt 2 (spE pSp T tn tp), oX6 xt tt tn na2 (spE pSp T tn tp) nk3 ng4, arB X tt 500 (sB T)]) A9 s9.heap H locs := hw
          refine W.eq (g2 := F0 m9 62 ls []) rfl ?_
          refine lv_aload_n Ex Eb dX5_expectNumber_62 rfl (lv_at hl 0 rfl) ?_
          refine lo_get E hK hw huRX5 0 hf55 rfl 0 rfl rfl (by decide) (v := .ref xt) rfl dX5_expectNumber_63 ?_
          refine lo_get E hK hw huRX6 5 hf112 rfl 1 rfl rfl (by decide) (v := .int (iI ng4)) rfl dX5_expectNumber_66 ?_
          exact lo_iret E hRt hLk hK hAe hw dX5_expectNumber_69 rfl ⟨na2, spE pSp T tn tp, nk3, ng4, 2, spE pSp T tn tp, ng4, (by first | exact Or.inl ⟨by omega, rfl, rfl, rfl, rfl⟩ | exact Or.inr ⟨by omega, rfl, q13_0⟩), (by omega), (by omega), rfl, rfl⟩
    · skip
      refine lv_aload_n Ex Eb dX5_expectNumber_27 rfl (lv_at hl 0 rfl) ?_
      refine lv_iconst (v := iI 1) Ex Eb dX5_expectNumber_28 rfl ?_
      refine lo_callV (q0 := 0) (rest := []) E hK hw (kX5_fail l X xc tg a1 a2 a3 en ex dp s1 s2 s3 kt ek eo xt tt tn na2 (spE pSp T tn tp) nk3 ng4 1 ) (cwV 1 E.2.2.2.2 gX5_expectNumber_X5_fail rfl rfl rfl (by decide +kernel) ⟨Nat.le_of_ble_eq_true rfl, Nat.le_of_ble_eq_true rfl⟩) rfl rfl [0, 1] rfl (by decide) hl.1 rfl rfl (Nat.le_of_ble_eq_true rfl) dX5_expectNumber_29 ⟨Nat.le_of_ble_eq_true rfl, Nat.le_of_ble_eq_true rfl⟩ (fun v w1 H locs hq hw => ?_)
      obtain ⟨rfl, rfl⟩ := hq
      have hw : lo_Wd X ([oX5 xc xt tg en ex dp a1 a2 a3 s1 s2 s3 kt 1 (spE pSp T tn tp), oX6 xt tt tn na2 (spE pSp T tn tp) nk3 ng4, arB X tt 500 (sB T)]) A9 s9.heap H locs := hw
      refine W.eq (g2 := F0 m9 32 ls []) rfl ?_
      refine lv_goto (tgt := 62) Ex Eb dX5_expectNumber_32 (by decide) ?_
      refine lv_aload_n Ex Eb dX5_expectNumber_62 rfl (lv_at hl 0 rfl) ?_
      refine lo_get E hK hw huRX5 0 hf55 rfl 0 rfl rfl (by decide) (v := .ref xt) rfl dX5_expectNumber_63 ?_
      refine lo_get E hK hw huRX6 5 hf112 rfl 1 rfl rfl (by decide) (v := .int (iI ng4)) rfl dX5_expectNumber_66 ?_
      exact lo_iret E hRt hLk hK hAe hw dX5_expectNumber_69 rfl ⟨na2, spE pSp T tn tp, nk3, ng4, 1, spE pSp T tn tp, ng4, (by first | exact Or.inl ⟨by omega, rfl, rfl, rfl, rfl⟩ | exact Or.inr ⟨by omega, rfl, q13_0⟩), (by omega), (by omega), rfl, rfl⟩
  · skip
    refine lv_iconst (v := iI 0) Ex Eb dX5_expectNumber_7 rfl ?_
    exact lo_iret E hRt hLk hK hAe hw dX5_expectNumber_8 rfl ⟨tp, ts, tk, tv, ek, eo, 0, (by first | exact Or.inl ⟨by omega, rfl, rfl, rfl, rfl⟩ | exact Or.inr ⟨by omega, rfl, q13_0⟩), (by omega), (by omega), rfl, rfl⟩
