set_option maxHeartbeats 4000000 in
set_option maxRecDepth 100000 in
theorem kX5_beginRepeat (l : Launch) (X : KX) (xc tg a1 a2 a3 : Nat) (en ex dp s1 s2 s3 kt ek eo : Int) (xt tt : Nat) (tn tp ts tk tv : Int) (T : Nat → Int) (f1 f2 f3 : Nat → Int) (ht : 0 ≤ tn ∧ tn ≤ 500) (hT : ∀ k : Nat, 0 ≤ T k ∧ T k ≤ 255) (hp : 0 ≤ ts ∧ ts ≤ tp ∧ tp ≤ tn) (hk : 0 ≤ tk ∧ tk ≤ 4) (hv : 0 ≤ tv ∧ tv ≤ 9999999) (he : 0 ≤ ek ∧ ek ≤ 9) (hd : 0 ≤ dp ∧ dp ≤ 3) (hex : 0 ≤ ex ∧ ex ≤ 300) (hf : ∀ k : Nat, (k : Int) < dp → (0 ≤ f1 k ∧ f1 k ≤ tn) ∧ (1 ≤ f2 k ∧ f2 k ≤ 24) ∧ (0 ≤ f3 k ∧ f3 k ≤ 300)) (he0 : ek = 0) : CM l X yX5_beginRepeat wsX5_beginRepeat ({ frames := 4, cells := 0, slots := 0, locals := 84 }) [.ref xc] ([oX5 xc xt tg en ex dp a1 a2 a3 s1 s2 s3 kt ek eo, oX6 xt tt tn tp ts tk tv, arB X tt 500 (sB T), arI X a1 3 f1, arI X a2 3 f2, arI X a3 3 f3]) (fun v9 w9 => ∃ na : Int, ∃ nb : Int, ∃ nk : Int, ∃ ng : Int, ∃ ke : Int, ∃ ko : Int, ∃ dq : Int, ∃ g1 : Nat → Int, ∃ g2 : Nat → Int, ∃ g3 : Nat → Int, ((dp = 3 ∧ ke = 4 ∧ ko = ts ∧ na = tp ∧ nb = ts ∧ nk = tk ∧ ng = tv ∧ dq = dp ∧ g1 = f1 ∧ g2 = f2 ∧ g3 = f3) ∨ (dp < 3 ∧ ∃ a b k g e o z : Int, NUMS T tn tp ts tk tv ek eo a b k g e o 1 24 z ∧ SIGS T tn a b k g e o na nb nk ng ke ko 40 ∧ dq = dp + 1 ∧ g1 = uI f1 dp.toNat na ∧ g2 = uI f2 dp.toNat z ∧ g3 = uI f3 dp.toNat ex)) ∧ ((0 ≤ nb ∧ nb ≤ na ∧ na ≤ tn) ∧ (0 ≤ nk ∧ nk ≤ 4) ∧ (0 ≤ ng ∧ ng ≤ 9999999) ∧ 0 ≤ ke ∧ ke ≤ 9) ∧ v9 = none ∧ w9 = [oX5 xc xt tg en ex dq a1 a2 a3 s1 s2 s3 kt ke ko, oX6 xt tt tn na nb nk ng, arB X tt 500 (sB T), arI X a1 3 g1, arI X a2 3 g2, arI X a3 3 g3]) 0 0 := by
  refine lo_enter (cc := cX5_beginRepeat) (maxL := 2) (ret := none) (lv := [(0, .ref xc)]) (by decide) rfl rfl (Nat.le_of_ble_eq_true rfl) ?_
  intro p9 e9 s9 m9 bl9 me9 c9 A9 ls hAe E hRt hLk hK hl hw
  have Ex := E.1
  have Eb := E.2.1
  have huRX5 : ∀ w ∈ u_ws RX5 TX5 14, w ∈ wsX5_beginRepeat := by decide +kernel
  have hf19 : (Cond.fieldLink RX5 19 "LoanSchedule$Script" "depth" "I").before _ s9 = true := E.2.2.2.2 _ (List.mem_of_getElem? (i := 1) rfl)
  have hf22 : (Cond.fieldLink RX5 22 "LoanSchedule$Script" "bodyStart" "[I").before _ s9 = true := E.2.2.2.2 _ (List.mem_of_getElem? (i := 2) rfl)
  have hf55 : (Cond.fieldLink RX5 55 "LoanSchedule$Script" "tokens" "LLoanSchedule$Tokens;").before _ s9 = true := E.2.2.2.2 _ (List.mem_of_getElem? (i := 3) rfl)
  have huRX6 : ∀ w ∈ u_ws RX6 TX6 6, w ∈ wsX5_beginRepeat := by decide +kernel
  have hf144 : (Cond.fieldLink RX5 144 "LoanSchedule$Tokens" "position" "I").before _ s9 = true := E.2.2.2.2 _ (List.mem_of_getElem? (i := 4) rfl)
  have hf26 : (Cond.fieldLink RX5 26 "LoanSchedule$Script" "passesLeft" "[I").before _ s9 = true := E.2.2.2.2 _ (List.mem_of_getElem? (i := 5) rfl)
  have hf29 : (Cond.fieldLink RX5 29 "LoanSchedule$Script" "executedBefore" "[I").before _ s9 = true := E.2.2.2.2 _ (List.mem_of_getElem? (i := 6) rfl)
  have hf15 : (Cond.fieldLink RX5 15 "LoanSchedule$Script" "executed" "I").before _ s9 = true := E.2.2.2.2 _ (List.mem_of_getElem? (i := 7) rfl)
  refine lv_aload_n Ex Eb dX5_beginRepeat_0 rfl (lv_at hl 0 rfl) ?_
  refine lo_get E hK hw huRX5 4 hf19 rfl 0 rfl rfl (by decide) (v := .int (iI dp)) rfl dX5_beginRepeat_1 ?_
  refine lo_if_lt (tgt := 15) E dX5_beginRepeat_4 (by decide) (by omega) (fun c1 => ?_) (fun c1 => ?_)
  · skip
    refine lv_aload_n Ex Eb dX5_beginRepeat_15 rfl (lv_at hl 0 rfl) ?_
    refine lv_iconst (v := iI 4) Ex Eb dX5_beginRepeat_16 rfl ?_
    refine lo_callV (q0 := 0) (rest := []) E hK hw (kX5_fail l X xc tg a1 a2 a3 en ex dp s1 s2 s3 kt ek eo xt tt tn tp ts tk tv 4 ) (cwV 1 E.2.2.2.2 gX5_beginRepeat_X5_fail rfl rfl rfl (by decide +kernel) ⟨Nat.le_of_ble_eq_true rfl, Nat.le_of_ble_eq_true rfl⟩) rfl rfl [0, 1] rfl (by decide) hl.1 rfl rfl (Nat.le_of_ble_eq_true rfl) dX5_beginRepeat_17 ⟨Nat.le_of_ble_eq_true rfl, Nat.le_of_ble_eq_true rfl⟩ (fun v w1 H locs hq hw => ?_)
    obtain ⟨rfl, rfl⟩ := hq
    have hw : lo_Wd X ([oX5 xc xt tg en ex dp a1 a2 a3 s1 s2 s3 kt 4 ts, oX6 xt tt tn tp ts tk tv, arB X tt 500 (sB T), arI X a1 3 f1, arI X a2 3 f2, arI X a3 3 f3]) A9 s9.heap H locs := hw
    refine W.eq (g2 := F0 m9 20 ls []) rfl ?_
    exact lo_vret E hRt hLk hK hAe hw dX5_beginRepeat_20 rfl ⟨tp, ts, tk, tv, 4, ts, dp, f1, f2, f3, (by first | exact Or.inl ⟨by omega, rfl, rfl, rfl, rfl, rfl, rfl, rfl, rfl, rfl, rfl⟩ | exact Or.inr ⟨by omega, _, _, _, _, _, _, _, ⟨q25_0, q25_2⟩, ⟨q32_0, q32_2⟩, rfl, rfl, rfl, rfl⟩), (by omega), rfl, rfl⟩
  · skip
    refine lv_aload_n Ex Eb dX5_beginRepeat_7 rfl (lv_at hl 0 rfl) ?_
    refine lo_get E hK hw huRX5 4 hf19 rfl 0 rfl rfl (by decide) (v := .int (iI dp)) rfl dX5_beginRepeat_8 ?_
    refine lv_iconst (v := iI 3) Ex Eb dX5_beginRepeat_11 rfl ?_
    refine lo_icmp_lt (tgt := 21) E dX5_beginRepeat_12 (by decide) (by omega) (by omega) (fun c2 => ?_) (fun c2 => ?_)
    · skip
      refine lv_aload_n Ex Eb dX5_beginRepeat_21 rfl (lv_at hl 0 rfl) ?_
      refine lv_iconst (v := iI 1) Ex Eb dX5_beginRepeat_22 rfl ?_
      refine lv_bipush (v := iI 24) Ex Eb dX5_beginRepeat_23 rfl ?_
      refine lo_callV (q0 := 0) (rest := []) E hK hw (kX5_expectNumber l X xc tg a1 a2 a3 en ex dp s1 s2 s3 kt ek eo xt tt tn tp ts tk tv T 1 24 (ht) (hT) (hp) (hk) (hv) (he) (by omega) (by omega)) (cwV 2 E.2.2.2.2 gX5_beginRepeat_X5_expectNumber rfl rfl rfl (by decide +kernel) ⟨Nat.le_of_ble_eq_true rfl, Nat.le_of_ble_eq_true rfl⟩) rfl rfl [0, 1, 2] rfl (by decide) hl.1 rfl rfl (Nat.le_of_ble_eq_true rfl) dX5_beginRepeat_25 ⟨Nat.le_of_ble_eq_true rfl, Nat.le_of_ble_eq_true rfl⟩ (fun v w1 H locs hq hw => ?_)
      obtain ⟨na3, nb4, nk5, ng6, ke7, ko8, z9, q25_0, q25_1, q25_2, rfl, rfl⟩ := hq
      have hw : lo_Wd X ([oX5 xc xt tg en ex dp a1 a2 a3 s1 s2 s3 kt ke7 ko8, oX6 xt tt tn na3 nb4 nk5 ng6, arB X tt 500 (sB T), arI X a1 3 f1, arI X a2 3 f2, arI X a3 3 f3]) A9 s9.heap H locs := hw
      refine W.eq (g2 := F0 m9 28 ls [.int (iI z9)]) rfl ?_
      refine lv_istore_n (lv' := [(1, .int (iI z9)), (0, .ref xc)]) Ex Eb dX5_beginRepeat_28 rfl hl (by decide) rfl (fun ls hl => ?_)
      refine lv_aload_n Ex Eb dX5_beginRepeat_29 rfl (lv_at hl 1 rfl) ?_
      refine lv_bipush (v := iI 40) Ex Eb dX5_beginRepeat_30 rfl ?_
      refine lo_callV (q0 := 0) (rest := []) E hK hw (kX5_expectSign l X xc tg a1 a2 a3 en ex dp s1 s2 s3 kt ke7 ko8 xt tt tn na3 nb4 nk5 ng6 T 40 (ht) (hT) (by omega) (by omega) (by omega) (by omega) (by omega)) (cwV 1 E.2.2.2.2 gX5_beginRepeat_X5_expectSign rfl rfl rfl (by decide +kernel) ⟨Nat.le_of_ble_eq_true rfl, Nat.le_of_ble_eq_true rfl⟩) rfl rfl [0, 1, 2] rfl (by decide) hl.1 rfl rfl (Nat.le_of_ble_eq_true rfl) dX5_beginRepeat_32 ⟨Nat.le_of_ble_eq_true rfl, Nat.le_of_ble_eq_true rfl⟩ (fun v w1 H locs hq hw => ?_)
      obtain ⟨na10, nb11, nk12, ng13, ke14, ko15, q32_0, q32_1, q32_2, rfl, rfl⟩ := hq
      have hw : lo_Wd X ([oX5 xc xt tg en ex dp a1 a2 a3 s1 s2 s3 kt ke14 ko15, oX6 xt tt tn na10 nb11 nk12 ng13, arB X tt 500 (sB T), arI X a1 3 f1, arI X a2 3 f2, arI X a3 3 f3]) A9 s9.heap H locs := hw
      refine W.eq (g2 := F0 m9 35 ls []) rfl ?_
      refine lv_aload_n Ex Eb dX5_beginRepeat_35 rfl (lv_at hl 1 rfl) ?_
      refine lo_get E hK hw huRX5 5 hf22 rfl 0 rfl rfl (by decide) (v := .ref a1) rfl dX5_beginRepeat_36 ?_
      refine lv_aload_n Ex Eb dX5_beginRepeat_39 rfl (lv_at hl 1 rfl) ?_
      refine lo_get E hK hw huRX5 4 hf19 rfl 0 rfl rfl (by decide) (v := .int (iI dp)) rfl dX5_beginRepeat_40 ?_
      refine lv_aload_n Ex Eb dX5_beginRepeat_43 rfl (lv_at hl 1 rfl) ?_
      refine lo_get E hK hw huRX5 0 hf55 rfl 0 rfl rfl (by decide) (v := .ref xt) rfl dX5_beginRepeat_44 ?_
      refine lo_get E hK hw huRX6 2 hf144 rfl 1 rfl rfl (by decide) (v := .int (iI na10)) rfl dX5_beginRepeat_47 ?_
      refine lo_iast E hK hw 3 rfl (by omega) (ws' := [oX5 xc xt tg en ex dp a1 a2 a3 s1 s2 s3 kt ke14 ko15, oX6 xt tt tn na10 nb11 nk12 ng13, arB X tt 500 (sB T), arI X a1 3 (uI f1 dp.toNat na10), arI X a2 3 f2, arI X a3 3 f3]) rfl dX5_beginRepeat_50 (fun H locs hw => ?_)
      refine lv_aload_n Ex Eb dX5_beginRepeat_51 rfl (lv_at hl 1 rfl) ?_
      refine lo_get E hK hw huRX5 6 hf26 rfl 0 rfl rfl (by decide) (v := .ref a2) rfl dX5_beginRepeat_52 ?_
      refine lv_aload_n Ex Eb dX5_beginRepeat_55 rfl (lv_at hl 1 rfl) ?_
      refine lo_get E hK hw huRX5 4 hf19 rfl 0 rfl rfl (by decide) (v := .int (iI dp)) rfl dX5_beginRepeat_56 ?_
      refine lv_iload_n Ex Eb dX5_beginRepeat_59 rfl (lv_at hl 0 rfl) ?_
      refine lo_iast E hK hw 4 rfl (by omega) (ws' := [oX5 xc xt tg en ex dp a1 a2 a3 s1 s2 s3 kt ke14 ko15, oX6 xt tt tn na10 nb11 nk12 ng13, arB X tt 500 (sB T), arI X a1 3 (uI f1 dp.toNat na10), arI X a2 3 (uI f2 dp.toNat z9), arI X a3 3 f3]) rfl dX5_beginRepeat_60 (fun H locs hw => ?_)
      refine lv_aload_n Ex Eb dX5_beginRepeat_61 rfl (lv_at hl 1 rfl) ?_
      refine lo_get E hK hw huRX5 7 hf29 rfl 0 rfl rfl (by decide) (v := .ref a3) rfl dX5_beginRepeat_62 ?_
      refine lv_aload_n Ex Eb dX5_beginRepeat_65 rfl (lv_at hl 1 rfl) ?_
      refine lo_get E hK hw huRX5 4 hf19 rfl 0 rfl rfl (by decide) (v := .int (iI dp)) rfl dX5_beginRepeat_66 ?_
      refine lv_aload_n Ex Eb dX5_beginRepeat_69 rfl (lv_at hl 1 rfl) ?_
      refine lo_get E hK hw huRX5 3 hf15 rfl 0 rfl rfl (by decide) (v := .int (iI ex)) rfl dX5_beginRepeat_70 ?_
      refine lo_iast E hK hw 5 rfl (by omega) (ws' := [oX5 xc xt tg en ex dp a1 a2 a3 s1 s2 s3 kt ke14 ko15, oX6 xt tt tn na10 nb11 nk12 ng13, arB X tt 500 (sB T), arI X a1 3 (uI f1 dp.toNat na10), arI X a2 3 (uI f2 dp.toNat z9), arI X a3 3 (uI f3 dp.toNat ex)]) rfl dX5_beginRepeat_73 (fun H locs hw => ?_)
      refine lv_aload_n Ex Eb dX5_beginRepeat_74 rfl (lv_at hl 1 rfl) ?_
      refine lv_dup Ex Eb dX5_beginRepeat_75 rfl ?_
      refine lo_get E hK hw huRX5 4 hf19 rfl 0 rfl rfl (by decide) (v := .int (iI dp)) rfl dX5_beginRepeat_76 ?_
      refine lv_iconst (v := iI 1) Ex Eb dX5_beginRepeat_79 rfl ?_
      refine lo_iadd E dX5_beginRepeat_80 ?_
      refine lo_put E hK hw huRX5 tyX5 tyX5_ok nmX5 4 hf19 rfl 0 rfl rfl (by decide) rfl rfl rfl rfl (Nat.le_of_ble_eq_true rfl) (ws' := [oX5 xc xt tg en ex (dp + 1) a1 a2 a3 s1 s2 s3 kt ke14 ko15, oX6 xt tt tn na10 nb11 nk12 ng13, arB X tt 500 (sB T), arI X a1 3 (uI f1 dp.toNat na10), arI X a2 3 (uI f2 dp.toNat z9), arI X a3 3 (uI f3 dp.toNat ex)]) rfl dX5_beginRepeat_81 (fun H locs hw => ?_)
      exact lo_vret E hRt hLk hK hAe hw dX5_beginRepeat_84 rfl ⟨na10, nb11, nk12, ng13, ke14, ko15, dp + 1, uI f1 dp.toNat na10, uI f2 dp.toNat z9, uI f3 dp.toNat ex, (by first | exact Or.inl ⟨by omega, rfl, rfl, rfl, rfl, rfl, rfl, rfl, rfl, rfl, rfl⟩ | exact Or.inr ⟨by omega, _, _, _, _, _, _, _, ⟨q25_0, q25_2⟩, ⟨q32_0, q32_2⟩, rfl, rfl, rfl, rfl⟩), (by omega), rfl, rfl⟩
    · skip
      refine lv_aload_n Ex Eb dX5_beginRepeat_15 rfl (lv_at hl 0 rfl) ?_
      refine lv_iconst (v := iI 4) Ex Eb dX5_beginRepeat_16 rfl ?_
      refine lo_callV (q0 := 0) (rest := []) E hK hw (kX5_fail l X xc tg a1 a2 a3 en ex dp s1 s2 s3 kt ek eo xt tt tn tp ts tk tv 4 ) (cwV 1 E.2.2.2.2 gX5_beginRepeat_X5_fail rfl rfl rfl (by decide +kernel) ⟨Nat.le_of_ble_eq_true rfl, Nat.le_of_ble_eq_true rfl⟩) rfl rfl [0, 1] rfl (by decide) hl.1 rfl rfl (Nat.le_of_ble_eq_true rfl) dX5_beginRepeat_17 ⟨Nat.le_of_ble_eq_true rfl, Nat.le_of_ble_eq_true rfl⟩ (fun v w1 H locs hq hw => ?_)
      obtain ⟨rfl, rfl⟩ := hq
      have hw : lo_Wd X ([oX5 xc xt tg en ex dp a1 a2 a3 s1 s2 s3 kt 4 ts, oX6 xt tt tn tp ts tk tv, arB X tt 500 (sB T), arI X a1 3 f1, arI X a2 3 f2, arI X a3 3 f3]) A9 s9.heap H locs := hw
      refine W.eq (g2 := F0 m9 20 ls []) rfl ?_
      exact lo_vret E hRt hLk hK hAe hw dX5_beginRepeat_20 rfl ⟨tp, ts, tk, tv, 4, ts, dp, f1, f2, f3, (by first | exact Or.inl ⟨by omega, rfl, rfl, rfl, rfl, rfl, rfl, rfl, rfl, rfl, rfl⟩ | exact Or.inr ⟨by omega, _, _, _, _, _, _, _, ⟨q25_0, q25_2⟩, ⟨q32_0, q32_2⟩, rfl, rfl, rfl, rfl⟩), (by omega), rfl, rfl⟩
