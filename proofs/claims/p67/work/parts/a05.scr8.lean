set_option maxHeartbeats 4000000 in
set_option maxRecDepth 100000 in
theorem kX5_readCommand (l : Launch) (X : KX) (kS : Nat → Nat) (xc tg a1 a2 a3 : Nat) (ex dp s1 s2 s3 kt eo : Int) (xt tt : Nat) (tn tp ts tk tv : Int) (T : Nat → Int) (f1 f2 f3 : Nat → Int) (ht : 0 ≤ tn ∧ tn ≤ 500) (hT : ∀ k : Nat, 0 ≤ T k ∧ T k ≤ 255) (hp : (0 ≤ tp ∧ tp ≤ tn) ∧ 0 ≤ ts ∧ ts ≤ tn) (hk : 0 ≤ tk ∧ tk ≤ 4) (hv : 0 ≤ tv ∧ tv ≤ 9999999) (hd : 0 ≤ dp ∧ dp ≤ 3) (hex : 0 ≤ ex ∧ ex ≤ 300) (hf : AV tn dp f1 f2 f3) : CE l X kS yX5_readCommand wsX5_readCommand ({ frames := 6, cells := 0, slots := 0, locals := 248 }) [.ref xc] ([oX5 xc xt tg 0 ex dp a1 a2 a3 s1 s2 s3 kt 0 eo, oX6 xt tt tn tp ts tk tv, arB X tt 500 (sB T), arI X a1 3 f1, arI X a2 3 f2, arI X a3 3 f3]) (fun v9 w9 => ∃ na : Int, ∃ nb : Int, ∃ nk : Int, ∃ ng : Int, ∃ ke : Int, ∃ ko : Int, ∃ dq : Int, ∃ g1 : Nat → Int, ∃ g2 : Nat → Int, ∃ g3 : Nat → Int, ∃ z : Int, ∃ ee : Int, (RCM T tn tp ex dp f1 f2 f3 na ke ko eo dq g1 g2 g3 z ee) ∧ ((0 ≤ nk ∧ nk ≤ 4) ∧ (0 ≤ ng ∧ ng ≤ 9999999) ∧ (0 ≤ na ∧ na ≤ tn) ∧ (0 ≤ nb ∧ nb ≤ tn) ∧ (z = 0 ∨ nb ≤ na) ∧ 0 ≤ ke ∧ ke ≤ 9 ∧ 0 ≤ dq ∧ dq ≤ 3 ∧ 0 ≤ z ∧ z ≤ 7 ∧ 0 ≤ ee ∧ ee ≤ 1) ∧ (ke = 0 → ko = eo) ∧ v9 = some (.int (iI z)) ∧ w9 = [oX5 xc xt tg ee ex dq a1 a2 a3 s1 s2 s3 kt ke ko, oX6 xt tt tn na nb nk ng, arB X tt 500 (sB T), arI X a1 3 g1, arI X a2 3 g2, arI X a3 3 g3]) 0 0 := by
  refine lo_enterE (cc := cX5_readCommand) (maxL := 2) (ret := (some .int)) (lv := [(0, .ref xc)]) (by decide) rfl rfl (Nat.le_of_ble_eq_true rfl) ?_
  intro p9 e9 s9 m9 bl9 me9 c9 A9 ls hAe E hRt hLk hK hl hw hV
  have Ex := E.1
  have Eb := E.2.1
  have huRX5 : ∀ w ∈ u_ws RX5 TX5 14, w ∈ wsX5_readCommand := by decide +kernel
  have hf55 : (Cond.fieldLink RX5 55 "LoanSchedule$Script" "tokens" "LLoanSchedule$Tokens;").before _ s9 = true := E.2.2.2.2 _ (List.mem_of_getElem? (i := 1) rfl)
  have huRX6 : ∀ w ∈ u_ws RX6 TX6 6, w ∈ wsX5_readCommand := by decide +kernel
  have hf109 : (Cond.fieldLink RX5 109 "LoanSchedule$Tokens" "kind" "I").before _ s9 = true := E.2.2.2.2 _ (List.mem_of_getElem? (i := 2) rfl)
  have hf15 : (Cond.fieldLink RX5 15 "LoanSchedule$Script" "executed" "I").before _ s9 = true := E.2.2.2.2 _ (List.mem_of_getElem? (i := 5) rfl)
  have hf19 : (Cond.fieldLink RX5 19 "LoanSchedule$Script" "depth" "I").before _ s9 = true := E.2.2.2.2 _ (List.mem_of_getElem? (i := 3) rfl)
  have hf9 : (Cond.fieldLink RX5 9 "LoanSchedule$Script" "ended" "Z").before _ s9 = true := E.2.2.2.2 _ (List.mem_of_getElem? (i := 4) rfl)
  have htr := tok_r (T := T) (n := tn) (p := tp) (by omega)
  have hB : toB T tn tp = spE pSp T tn tp := rfl
  have hcr := cw_r T tn tp
  refine lv_aload_n Ex Eb dX5_readCommand_0 rfl (lv_at hl 0 rfl) ?_
  refine lo_get E hK hw huRX5 0 hf55 rfl 0 rfl rfl (by decide) (v := .ref xt) rfl dX5_readCommand_1 ?_
  refine lo_callV (q0 := 1) (rest := []) E hK hw (kX6_advance l X xt tt tn tp ts tk tv T (ht) (hT) (by omega) (hv)) (cwV 0 E.2.2.2.2 gX5_readCommand_X6_advance rfl rfl rfl (by decide +kernel) ⟨Nat.le_of_ble_eq_true rfl, Nat.le_of_ble_eq_true rfl⟩) rfl rfl [1, 2] rfl (by decide) hl.1 rfl rfl (Nat.le_of_ble_eq_true rfl) dX5_readCommand_4 ⟨Nat.le_of_ble_eq_true rfl, Nat.le_of_ble_eq_true rfl⟩ (fun v w1 H locs hq hw => ?_)
  obtain ⟨na1, nk2, ng3, q4_0, q4_1, rfl, rfl⟩ := hq
  have hw : lo_Wd X ([oX5 xc xt tg 0 ex dp a1 a2 a3 s1 s2 s3 kt 0 eo, oX6 xt tt tn na1 (spE pSp T tn tp) nk2 ng3, arB X tt 500 (sB T), arI X a1 3 f1, arI X a2 3 f2, arI X a3 3 f3]) A9 s9.heap H locs := hw
  refine W.eq (g2 := F0 m9 7 ls []) rfl ?_
  have hA := SCK_f (p := tp) q4_0
  refine lv_aload_n Ex Eb dX5_readCommand_7 rfl (lv_at hl 0 rfl) ?_
  refine lo_callVE (q0 := 0) (rest := []) E hK hw hV (kX5_commandOfWord l X kS xc tg a1 a2 a3 0 ex dp s1 s2 s3 kt 0 eo xt tt tn na1 (spE pSp T tn tp) nk2 ng3 T (ht) (hT) (by omega) (by omega) (by omega) (by omega)) (cwV 0 E.2.2.2.2 gX5_readCommand_X5_commandOfWord rfl rfl rfl (by decide +kernel) ⟨Nat.le_of_ble_eq_true rfl, Nat.le_of_ble_eq_true rfl⟩) rfl rfl [0, 1, 2] rfl (by decide) hl.1 rfl rfl (Nat.le_of_ble_eq_true rfl) dX5_readCommand_8 ⟨Nat.le_of_ble_eq_true rfl, Nat.le_of_ble_eq_true rfl⟩ (fun v w1 H locs hq hw => ?_)
  obtain ⟨cz, q8_0, rfl, rfl⟩ := hq
  have hw : lo_Wd X ([oX5 xc xt tg 0 ex dp a1 a2 a3 s1 s2 s3 kt 0 eo, oX6 xt tt tn na1 (spE pSp T tn tp) nk2 ng3, arB X tt 500 (sB T), arI X a1 3 f1, arI X a2 3 f2, arI X a3 3 f3]) A9 s9.heap H locs := hw
  refine W.eq (g2 := F0 m9 11 ls [.int (iI cz)]) rfl ?_
  have hC : cw T tn tp = cz := cw_f (by unfold CW; rw [← hA.1, ← hA.2.1]; exact q8_0)
  refine lv_istore_n (lv' := [(1, .int (iI cz)), (0, .ref xc)]) Ex Eb dX5_readCommand_11 rfl hl (by decide) rfl (fun ls hl => ?_)
  refine lv_aload_n Ex Eb dX5_readCommand_12 rfl (lv_at hl 1 rfl) ?_
  refine lo_get E hK hw huRX5 0 hf55 rfl 0 rfl rfl (by decide) (v := .ref xt) rfl dX5_readCommand_13 ?_
  refine lo_get E hK hw huRX6 4 hf109 rfl 1 rfl rfl (by decide) (v := .int (iI nk2)) rfl dX5_readCommand_16 ?_
  refine lo_if_ne (tgt := 37) E dX5_readCommand_19 (by decide) (by omega) (fun c4 => ?_) (fun c4 => ?_)
  · skip
    refine lv_aload_n Ex Eb dX5_readCommand_37 rfl (lv_at hl 1 rfl) ?_
    refine lo_get E hK hw huRX5 0 hf55 rfl 0 rfl rfl (by decide) (v := .ref xt) rfl dX5_readCommand_38 ?_
    refine lv_bipush (v := iI 41) Ex Eb dX5_readCommand_41 rfl ?_
    refine lo_callV (q0 := 1) (rest := []) E hK hw (kX6_isSign l X xt tt tn na1 (spE pSp T tn tp) nk2 ng3 T 41 (ht) (hT) (by omega) (by omega) (by omega)) (cwV 1 E.2.2.2.2 gX5_readCommand_X6_isSign rfl rfl rfl (by decide +kernel) ⟨Nat.le_of_ble_eq_true rfl, Nat.le_of_ble_eq_true rfl⟩) rfl rfl [1, 2] rfl (by decide) hl.1 rfl rfl (Nat.le_of_ble_eq_true rfl) dX5_readCommand_43 ⟨Nat.le_of_ble_eq_true rfl, Nat.le_of_ble_eq_true rfl⟩ (fun v w1 H locs hq hw => ?_)
    obtain ⟨z5, q43_0, rfl, rfl⟩ := hq
    have hw : lo_Wd X ([oX5 xc xt tg 0 ex dp a1 a2 a3 s1 s2 s3 kt 0 eo, oX6 xt tt tn na1 (spE pSp T tn tp) nk2 ng3, arB X tt 500 (sB T), arI X a1 3 f1, arI X a2 3 f2, arI X a3 3 f3]) A9 s9.heap H locs := hw
    refine W.eq (g2 := F0 m9 46 ls [.int (iI z5)]) rfl ?_
    refine lo_if_eq (tgt := 63) E dX5_readCommand_46 (by decide) (by omega) (fun c6 => ?_) (fun c6 => ?_)
    · skip
      refine lv_iload_n Ex Eb dX5_readCommand_63 rfl (lv_at hl 0 rfl) ?_
      refine lo_if_ne (tgt := 75) E dX5_readCommand_64 (by decide) (by omega) (fun c7 => ?_) (fun c7 => ?_)
      · skip
        refine lv_iload_n Ex Eb dX5_readCommand_75 rfl (lv_at hl 0 rfl) ?_
        refine lv_bipush (v := iI 8) Ex Eb dX5_readCommand_76 rfl ?_
        refine lo_icmp_ne (tgt := 88) E dX5_readCommand_78 (by decide) (by omega) (by omega) (fun c8 => ?_) (fun c8 => ?_)
        · skip
          refine lv_aload_n Ex Eb dX5_readCommand_88 rfl (lv_at hl 1 rfl) ?_
          refine lo_get E hK hw huRX5 3 hf15 rfl 0 rfl rfl (by decide) (v := .int (iI ex)) rfl dX5_readCommand_89 ?_
          refine lv_sipush (v := iI 300) Ex Eb dX5_readCommand_92 rfl ?_
          refine lo_icmp_lt (tgt := 106) E dX5_readCommand_95 (by decide) (by omega) (by omega) (fun c10 => ?_) (fun c10 => ?_)
          · skip
            refine lv_iload_n Ex Eb dX5_readCommand_106 rfl (lv_at hl 0 rfl) ?_
            exact lo_iret E hRt hLk hK hAe hw dX5_readCommand_107 rfl ⟨na1, spE pSp T tn tp, nk2, ng3, 0, eo, dp, f1, f2, f3, cz, 0, (by first | exact RCM_pass rfl rfl (by omega) (by omega) (by rw [hB]; omega) (by omega) (by omega) hf hA.1 q57_0 | exact RCM_rep rfl rfl (by omega) (by omega) (by omega) (by omega) (by omega) hf hA.1 rfl q82_0 | exact RCM_cmd rfl (by omega) hC (by omega) hA.1 rfl | exact RCM_fin rfl rfl rfl (by omega) (by omega) | exact RCM_none rfl rfl (by omega) (by rw [hB]; omega) (by omega) | exact RCM_many rfl rfl (by omega) (by omega)), (by omega), (fun h9 => by first | rfl | exact EPS_o q57_0 h9 | exact BRP_o q82_0 h9 | (exfalso; omega)), rfl, rfl⟩
          · skip
            refine lv_aload_n Ex Eb dX5_readCommand_98 rfl (lv_at hl 1 rfl) ?_
            refine lv_iconst (v := iI 5) Ex Eb dX5_readCommand_99 rfl ?_
            refine lo_callV (q0 := 0) (rest := []) E hK hw (kX5_fail l X xc tg a1 a2 a3 0 ex dp s1 s2 s3 kt 0 eo xt tt tn na1 (spE pSp T tn tp) nk2 ng3 5 ) (cwV 1 E.2.2.2.2 gX5_readCommand_X5_fail rfl rfl rfl (by decide +kernel) ⟨Nat.le_of_ble_eq_true rfl, Nat.le_of_ble_eq_true rfl⟩) rfl rfl [0, 1] rfl (by decide) hl.1 rfl rfl (Nat.le_of_ble_eq_true rfl) dX5_readCommand_100 ⟨Nat.le_of_ble_eq_true rfl, Nat.le_of_ble_eq_true rfl⟩ (fun v w1 H locs hq hw => ?_)
            obtain ⟨rfl, rfl⟩ := hq
            have hw : lo_Wd X ([oX5 xc xt tg 0 ex dp a1 a2 a3 s1 s2 s3 kt 5 (spE pSp T tn tp), oX6 xt tt tn na1 (spE pSp T tn tp) nk2 ng3, arB X tt 500 (sB T), arI X a1 3 f1, arI X a2 3 f2, arI X a3 3 f3]) A9 s9.heap H locs := hw
            refine W.eq (g2 := F0 m9 103 ls []) rfl ?_
            refine lv_goto (tgt := 108) Ex Eb dX5_readCommand_103 (by decide) ?_
            refine lv_iconst (v := iI 0) Ex Eb dX5_readCommand_108 rfl ?_
            exact lo_iret E hRt hLk hK hAe hw dX5_readCommand_109 rfl ⟨na1, spE pSp T tn tp, nk2, ng3, 5, spE pSp T tn tp, dp, f1, f2, f3, 0, 0, (by first | exact RCM_pass rfl rfl (by omega) (by omega) (by rw [hB]; omega) (by omega) (by omega) hf hA.1 q57_0 | exact RCM_rep rfl rfl (by omega) (by omega) (by omega) (by omega) (by omega) hf hA.1 rfl q82_0 | exact RCM_cmd rfl (by omega) hC (by omega) hA.1 rfl | exact RCM_fin rfl rfl rfl (by omega) (by omega) | exact RCM_none rfl rfl (by omega) (by rw [hB]; omega) (by omega) | exact RCM_many rfl rfl (by omega) (by omega)), (by omega), (fun h9 => by first | rfl | exact EPS_o q57_0 h9 | exact BRP_o q82_0 h9 | (exfalso; omega)), rfl, rfl⟩
        · skip
          refine lv_aload_n Ex Eb dX5_readCommand_81 rfl (lv_at hl 1 rfl) ?_
          refine lo_callV (q0 := 0) (rest := []) E hK hw (kX5_beginRepeat l X xc tg a1 a2 a3 0 ex dp s1 s2 s3 kt 0 eo xt tt tn na1 (spE pSp T tn tp) nk2 ng3 T f1 f2 f3 (ht) (hT) (by omega) (by omega) (by omega) (by omega) (by omega) (by omega) (hf) (rfl)) (cwV 0 E.2.2.2.2 gX5_readCommand_X5_beginRepeat rfl rfl rfl (by decide +kernel) ⟨Nat.le_of_ble_eq_true rfl, Nat.le_of_ble_eq_true rfl⟩) rfl rfl [0, 1, 2, 3, 4, 5] rfl (by decide) hl.1 rfl rfl (Nat.le_of_ble_eq_true rfl) dX5_readCommand_82 ⟨Nat.le_of_ble_eq_true rfl, Nat.le_of_ble_eq_true rfl⟩ (fun v w1 H locs hq hw => ?_)
          obtain ⟨na11, nb12, nk13, ng14, ke15, ko16, dq17, g118, g219, g320, q82_0, q82_1, rfl, rfl⟩ := hq
          have hw : lo_Wd X ([oX5 xc xt tg 0 ex dq17 a1 a2 a3 s1 s2 s3 kt ke15 ko16, oX6 xt tt tn na11 nb12 nk13 ng14, arB X tt 500 (sB T), arI X a1 3 g118, arI X a2 3 g219, arI X a3 3 g320]) A9 s9.heap H locs := hw
          refine W.eq (g2 := F0 m9 85 ls []) rfl ?_
          refine lv_goto (tgt := 108) Ex Eb dX5_readCommand_85 (by decide) ?_
          refine lv_iconst (v := iI 0) Ex Eb dX5_readCommand_108 rfl ?_
          exact lo_iret E hRt hLk hK hAe hw dX5_readCommand_109 rfl ⟨na11, nb12, nk13, ng14, ke15, ko16, dq17, g118, g219, g320, 0, 0, (by first | exact RCM_pass rfl rfl (by omega) (by omega) (by rw [hB]; omega) (by omega) (by omega) hf hA.1 q57_0 | exact RCM_rep rfl rfl (by omega) (by omega) (by omega) (by omega) (by omega) hf hA.1 rfl q82_0 | exact RCM_cmd rfl (by omega) hC (by omega) hA.1 rfl | exact RCM_fin rfl rfl rfl (by omega) (by omega) | exact RCM_none rfl rfl (by omega) (by rw [hB]; omega) (by omega) | exact RCM_many rfl rfl (by omega) (by omega)), (by omega), (fun h9 => by first | rfl | exact EPS_o q57_0 h9 | exact BRP_o q82_0 h9 | (exfalso; omega)), rfl, rfl⟩
      · skip
        refine lv_aload_n Ex Eb dX5_readCommand_67 rfl (lv_at hl 1 rfl) ?_
        refine lv_iconst (v := iI 1) Ex Eb dX5_readCommand_68 rfl ?_
        refine lo_callV (q0 := 0) (rest := []) E hK hw (kX5_fail l X xc tg a1 a2 a3 0 ex dp s1 s2 s3 kt 0 eo xt tt tn na1 (spE pSp T tn tp) nk2 ng3 1 ) (cwV 1 E.2.2.2.2 gX5_readCommand_X5_fail rfl rfl rfl (by decide +kernel) ⟨Nat.le_of_ble_eq_true rfl, Nat.le_of_ble_eq_true rfl⟩) rfl rfl [0, 1] rfl (by decide) hl.1 rfl rfl (Nat.le_of_ble_eq_true rfl) dX5_readCommand_69 ⟨Nat.le_of_ble_eq_true rfl, Nat.le_of_ble_eq_true rfl⟩ (fun v w1 H locs hq hw => ?_)
        obtain ⟨rfl, rfl⟩ := hq
        have hw : lo_Wd X ([oX5 xc xt tg 0 ex dp a1 a2 a3 s1 s2 s3 kt 1 (spE pSp T tn tp), oX6 xt tt tn na1 (spE pSp T tn tp) nk2 ng3, arB X tt 500 (sB T), arI X a1 3 f1, arI X a2 3 f2, arI X a3 3 f3]) A9 s9.heap H locs := hw
        refine W.eq (g2 := F0 m9 72 ls []) rfl ?_
        refine lv_goto (tgt := 108) Ex Eb dX5_readCommand_72 (by decide) ?_
        refine lv_iconst (v := iI 0) Ex Eb dX5_readCommand_108 rfl ?_
        exact lo_iret E hRt hLk hK hAe hw dX5_readCommand_109 rfl ⟨na1, spE pSp T tn tp, nk2, ng3, 1, spE pSp T tn tp, dp, f1, f2, f3, 0, 0, (by first | exact RCM_pass rfl rfl (by omega) (by omega) (by rw [hB]; omega) (by omega) (by omega) hf hA.1 q57_0 | exact RCM_rep rfl rfl (by omega) (by omega) (by omega) (by omega) (by omega) hf hA.1 rfl q82_0 | exact RCM_cmd rfl (by omega) hC (by omega) hA.1 rfl | exact RCM_fin rfl rfl rfl (by omega) (by omega) | exact RCM_none rfl rfl (by omega) (by rw [hB]; omega) (by omega) | exact RCM_many rfl rfl (by omega) (by omega)), (by omega), (fun h9 => by first | rfl | exact EPS_o q57_0 h9 | exact BRP_o q82_0 h9 | (exfalso; omega)), rfl, rfl⟩
    · skip
      refine lv_aload_n Ex Eb dX5_readCommand_49 rfl (lv_at hl 1 rfl) ?_
      refine lo_get E hK hw huRX5 4 hf19 rfl 0 rfl rfl (by decide) (v := .int (iI dp)) rfl dX5_readCommand_50 ?_
      refine lo_if_le (tgt := 63) E dX5_readCommand_53 (by decide) (by omega) (fun c21 => ?_) (fun c21 => ?_)
      · skip
        refine lv_iload_n Ex Eb dX5_readCommand_63 rfl (lv_at hl 0 rfl) ?_
        refine lo_if_ne (tgt := 75) E dX5_readCommand_64 (by decide) (by omega) (fun c22 => ?_) (fun c22 => ?_)
        · skip
          refine lv_iload_n Ex Eb dX5_readCommand_75 rfl (lv_at hl 0 rfl) ?_
          refine lv_bipush (v := iI 8) Ex Eb dX5_readCommand_76 rfl ?_
          refine lo_icmp_ne (tgt := 88) E dX5_readCommand_78 (by decide) (by omega) (by omega) (fun c23 => ?_) (fun c23 => ?_)
          · skip
            refine lv_aload_n Ex Eb dX5_readCommand_88 rfl (lv_at hl 1 rfl) ?_
            refine lo_get E hK hw huRX5 3 hf15 rfl 0 rfl rfl (by decide) (v := .int (iI ex)) rfl dX5_readCommand_89 ?_
            refine lv_sipush (v := iI 300) Ex Eb dX5_readCommand_92 rfl ?_
            refine lo_icmp_lt (tgt := 106) E dX5_readCommand_95 (by decide) (by omega) (by omega) (fun c24 => ?_) (fun c24 => ?_)
            · skip
              refine lv_iload_n Ex Eb dX5_readCommand_106 rfl (lv_at hl 0 rfl) ?_
              exact lo_iret E hRt hLk hK hAe hw dX5_readCommand_107 rfl ⟨na1, spE pSp T tn tp, nk2, ng3, 0, eo, dp, f1, f2, f3, cz, 0, (by first | exact RCM_pass rfl rfl (by omega) (by omega) (by rw [hB]; omega) (by omega) (by omega) hf hA.1 q57_0 | exact RCM_rep rfl rfl (by omega) (by omega) (by omega) (by omega) (by omega) hf hA.1 rfl q82_0 | exact RCM_cmd rfl (by omega) hC (by omega) hA.1 rfl | exact RCM_fin rfl rfl rfl (by omega) (by omega) | exact RCM_none rfl rfl (by omega) (by rw [hB]; omega) (by omega) | exact RCM_many rfl rfl (by omega) (by omega)), (by omega), (fun h9 => by first | rfl | exact EPS_o q57_0 h9 | exact BRP_o q82_0 h9 | (exfalso; omega)), rfl, rfl⟩
            · skip
              refine lv_aload_n Ex Eb dX5_readCommand_98 rfl (lv_at hl 1 rfl) ?_
              refine lv_iconst (v := iI 5) Ex Eb dX5_readCommand_99 rfl ?_
              refine lo_callV (q0 := 0) (rest := []) E hK hw (kX5_fail l X xc tg a1 a2 a3 0 ex dp s1 s2 s3 kt 0 eo xt tt tn na1 (spE pSp T tn tp) nk2 ng3 5 ) (cwV 1 E.2.2.2.2 gX5_readCommand_X5_fail rfl rfl rfl (by decide +kernel) ⟨Nat.le_of_ble_eq_true rfl, Nat.le_of_ble_eq_true rfl⟩) rfl rfl [0, 1] rfl (by decide) hl.1 rfl rfl (Nat.le_of_ble_eq_true rfl) dX5_readCommand_100 ⟨Nat.le_of_ble_eq_true rfl, Nat.le_of_ble_eq_true rfl⟩ (fun v w1 H locs hq hw => ?_)
              obtain ⟨rfl, rfl⟩ := hq
              have hw : lo_Wd X ([oX5 xc xt tg 0 ex dp a1 a2 a3 s1 s2 s3 kt 5 (spE pSp T tn tp), oX6 xt tt tn na1 (spE pSp T tn tp) nk2 ng3, arB X tt 500 (sB T), arI X a1 3 f1, arI X a2 3 f2, arI X a3 3 f3]) A9 s9.heap H locs := hw
              refine W.eq (g2 := F0 m9 103 ls []) rfl ?_
              refine lv_goto (tgt := 108) Ex Eb dX5_readCommand_103 (by decide) ?_
              refine lv_iconst (v := iI 0) Ex Eb dX5_readCommand_108 rfl ?_
              exact lo_iret E hRt hLk hK hAe hw dX5_readCommand_109 rfl ⟨na1, spE pSp T tn tp, nk2, ng3, 5, spE pSp T tn tp, dp, f1, f2, f3, 0, 0, (by first | exact RCM_pass rfl rfl (by omega) (by omega) (by rw [hB]; omega) (by omega) (by omega) hf hA.1 q57_0 | exact RCM_rep rfl rfl (by omega) (by omega) (by omega) (by omega) (by omega) hf hA.1 rfl q82_0 | exact RCM_cmd rfl (by omega) hC (by omega) hA.1 rfl | exact RCM_fin rfl rfl rfl (by omega) (by omega) | exact RCM_none rfl rfl (by omega) (by rw [hB]; omega) (by omega) | exact RCM_many rfl rfl (by omega) (by omega)), (by omega), (fun h9 => by first | rfl | exact EPS_o q57_0 h9 | exact BRP_o q82_0 h9 | (exfalso; omega)), rfl, rfl⟩
          · skip
            refine lv_aload_n Ex Eb dX5_readCommand_81 rfl (lv_at hl 1 rfl) ?_
            refine lo_callV (q0 := 0) (rest := []) E hK hw (kX5_beginRepeat l X xc tg a1 a2 a3 0 ex dp s1 s2 s3 kt 0 eo xt tt tn na1 (spE pSp T tn tp) nk2 ng3 T f1 f2 f3 (ht) (hT) (by omega) (by omega) (by omega) (by omega) (by omega) (by omega) (hf) (rfl)) (cwV 0 E.2.2.2.2 gX5_readCommand_X5_beginRepeat rfl rfl rfl (by decide +kernel) ⟨Nat.le_of_ble_eq_true rfl, Nat.le_of_ble_eq_true rfl⟩) rfl rfl [0, 1, 2, 3, 4, 5] rfl (by decide) hl.1 rfl rfl (Nat.le_of_ble_eq_true rfl) dX5_readCommand_82 ⟨Nat.le_of_ble_eq_true rfl, Nat.le_of_ble_eq_true rfl⟩ (fun v w1 H locs hq hw => ?_)
            obtain ⟨na25, nb26, nk27, ng28, ke29, ko30, dq31, g132, g233, g334, q82_0, q82_1, rfl, rfl⟩ := hq
            have hw : lo_Wd X ([oX5 xc xt tg 0 ex dq31 a1 a2 a3 s1 s2 s3 kt ke29 ko30, oX6 xt tt tn na25 nb26 nk27 ng28, arB X tt 500 (sB T), arI X a1 3 g132, arI X a2 3 g233, arI X a3 3 g334]) A9 s9.heap H locs := hw
            refine W.eq (g2 := F0 m9 85 ls []) rfl ?_
            refine lv_goto (tgt := 108) Ex Eb dX5_readCommand_85 (by decide) ?_
            refine lv_iconst (v := iI 0) Ex Eb dX5_readCommand_108 rfl ?_
            exact lo_iret E hRt hLk hK hAe hw dX5_readCommand_109 rfl ⟨na25, nb26, nk27, ng28, ke29, ko30, dq31, g132, g233, g334, 0, 0, (by first | exact RCM_pass rfl rfl (by omega) (by omega) (by rw [hB]; omega) (by omega) (by omega) hf hA.1 q57_0 | exact RCM_rep rfl rfl (by omega) (by omega) (by omega) (by omega) (by omega) hf hA.1 rfl q82_0 | exact RCM_cmd rfl (by omega) hC (by omega) hA.1 rfl | exact RCM_fin rfl rfl rfl (by omega) (by omega) | exact RCM_none rfl rfl (by omega) (by rw [hB]; omega) (by omega) | exact RCM_many rfl rfl (by omega) (by omega)), (by omega), (fun h9 => by first | rfl | exact EPS_o q57_0 h9 | exact BRP_o q82_0 h9 | (exfalso; omega)), rfl, rfl⟩
        · skip
          refine lv_aload_n Ex Eb dX5_readCommand_67 rfl (lv_at hl 1 rfl) ?_
          refine lv_iconst (v := iI 1) Ex Eb dX5_readCommand_68 rfl ?_
          refine lo_callV (q0 := 0) (rest := []) E hK hw (kX5_fail l X xc tg a1 a2 a3 0 ex dp s1 s2 s3 kt 0 eo xt tt tn na1 (spE pSp T tn tp) nk2 ng3 1 ) (cwV 1 E.2.2.2.2 gX5_readCommand_X5_fail rfl rfl rfl (by decide +kernel) ⟨Nat.le_of_ble_eq_true rfl, Nat.le_of_ble_eq_true rfl⟩) rfl rfl [0, 1] rfl (by decide) hl.1 rfl rfl (Nat.le_of_ble_eq_true rfl) dX5_readCommand_69 ⟨Nat.le_of_ble_eq_true rfl, Nat.le_of_ble_eq_true rfl⟩ (fun v w1 H locs hq hw => ?_)
          obtain ⟨rfl, rfl⟩ := hq
          have hw : lo_Wd X ([oX5 xc xt tg 0 ex dp a1 a2 a3 s1 s2 s3 kt 1 (spE pSp T tn tp), oX6 xt tt tn na1 (spE pSp T tn tp) nk2 ng3, arB X tt 500 (sB T), arI X a1 3 f1, arI X a2 3 f2, arI X a3 3 f3]) A9 s9.heap H locs := hw
          refine W.eq (g2 := F0 m9 72 ls []) rfl ?_
          refine lv_goto (tgt := 108) Ex Eb dX5_readCommand_72 (by decide) ?_
          refine lv_iconst (v := iI 0) Ex Eb dX5_readCommand_108 rfl ?_
          exact lo_iret E hRt hLk hK hAe hw dX5_readCommand_109 rfl ⟨na1, spE pSp T tn tp, nk2, ng3, 1, spE pSp T tn tp, dp, f1, f2, f3, 0, 0, (by first | exact RCM_pass rfl rfl (by omega) (by omega) (by rw [hB]; omega) (by omega) (by omega) hf hA.1 q57_0 | exact RCM_rep rfl rfl (by omega) (by omega) (by omega) (by omega) (by omega) hf hA.1 rfl q82_0 | exact RCM_cmd rfl (by omega) hC (by omega) hA.1 rfl | exact RCM_fin rfl rfl rfl (by omega) (by omega) | exact RCM_none rfl rfl (by omega) (by rw [hB]; omega) (by omega) | exact RCM_many rfl rfl (by omega) (by omega)), (by omega), (fun h9 => by first | rfl | exact EPS_o q57_0 h9 | exact BRP_o q82_0 h9 | (exfalso; omega)), rfl, rfl⟩
      · skip
        refine lv_aload_n Ex Eb dX5_readCommand_56 rfl (lv_at hl 1 rfl) ?_
        refine lo_callV (q0 := 0) (rest := []) E hK hw (kX5_endPass l X xc tg a1 a2 a3 0 ex dp s1 s2 s3 kt 0 eo xt tt tn na1 (spE pSp T tn tp) nk2 ng3 T f1 f2 f3 (ht) (hT) (by omega) (by omega) (by omega) (by omega) (by omega) (by omega) (hf) (by omega) (rfl)) (cwV 0 E.2.2.2.2 gX5_readCommand_X5_endPass rfl rfl rfl (by decide +kernel) ⟨Nat.le_of_ble_eq_true rfl, Nat.le_of_ble_eq_true rfl⟩) rfl rfl [0, 1, 2, 3, 4, 5] rfl (by decide) hl.1 rfl rfl (Nat.le_of_ble_eq_true rfl) dX5_readCommand_57 ⟨Nat.le_of_ble_eq_true rfl, Nat.le_of_ble_eq_true rfl⟩ (fun v w1 H locs hq hw => ?_)
        obtain ⟨na35, nb36, nk37, ng38, ke39, ko40, dq41, g342, q57_0, q57_1, rfl, rfl⟩ := hq
        have hw : lo_Wd X ([oX5 xc xt tg 0 ex dq41 a1 a2 a3 s1 s2 s3 kt ke39 ko40, oX6 xt tt tn na35 nb36 nk37 ng38, arB X tt 500 (sB T), arI X a1 3 f1, arI X a2 3 (uI f2 (dp - 1).toNat (f2 (dp - 1).toNat - 1)), arI X a3 3 g342]) A9 s9.heap H locs := hw
        refine W.eq (g2 := F0 m9 60 ls []) rfl ?_
        refine lv_goto (tgt := 108) Ex Eb dX5_readCommand_60 (by decide) ?_
        refine lv_iconst (v := iI 0) Ex Eb dX5_readCommand_108 rfl ?_
        exact lo_iret E hRt hLk hK hAe hw dX5_readCommand_109 rfl ⟨na35, nb36, nk37, ng38, ke39, ko40, dq41, f1, uI f2 (dp - 1).toNat (f2 (dp - 1).toNat - 1), g342, 0, 0, (by first | exact RCM_pass rfl rfl (by omega) (by omega) (by rw [hB]; omega) (by omega) (by omega) hf hA.1 q57_0 | exact RCM_rep rfl rfl (by omega) (by omega) (by omega) (by omega) (by omega) hf hA.1 rfl q82_0 | exact RCM_cmd rfl (by omega) hC (by omega) hA.1 rfl | exact RCM_fin rfl rfl rfl (by omega) (by omega) | exact RCM_none rfl rfl (by omega) (by rw [hB]; omega) (by omega) | exact RCM_many rfl rfl (by omega) (by omega)), (by omega), (fun h9 => by first | rfl | exact EPS_o q57_0 h9 | exact BRP_o q82_0 h9 | (exfalso; omega)), rfl, rfl⟩
  · skip
    refine lv_aload_n Ex Eb dX5_readCommand_22 rfl (lv_at hl 1 rfl) ?_
    refine lo_get E hK hw huRX5 4 hf19 rfl 0 rfl rfl (by decide) (v := .int (iI dp)) rfl dX5_readCommand_23 ?_
    refine lo_if_ne (tgt := 37) E dX5_readCommand_26 (by decide) (by omega) (fun c43 => ?_) (fun c43 => ?_)
    · skip
      refine lv_aload_n Ex Eb dX5_readCommand_37 rfl (lv_at hl 1 rfl) ?_
      refine lo_get E hK hw huRX5 0 hf55 rfl 0 rfl rfl (by decide) (v := .ref xt) rfl dX5_readCommand_38 ?_
      refine lv_bipush (v := iI 41) Ex Eb dX5_readCommand_41 rfl ?_
      refine lo_callV (q0 := 1) (rest := []) E hK hw (kX6_isSign l X xt tt tn na1 (spE pSp T tn tp) nk2 ng3 T 41 (ht) (hT) (by omega) (by omega) (by omega)) (cwV 1 E.2.2.2.2 gX5_readCommand_X6_isSign rfl rfl rfl (by decide +kernel) ⟨Nat.le_of_ble_eq_true rfl, Nat.le_of_ble_eq_true rfl⟩) rfl rfl [1, 2] rfl (by decide) hl.1 rfl rfl (Nat.le_of_ble_eq_true rfl) dX5_readCommand_43 ⟨Nat.le_of_ble_eq_true rfl, Nat.le_of_ble_eq_true rfl⟩ (fun v w1 H locs hq hw => ?_)
      obtain ⟨z44, q43_0, rfl, rfl⟩ := hq
      have hw : lo_Wd X ([oX5 xc xt tg 0 ex dp a1 a2 a3 s1 s2 s3 kt 0 eo, oX6 xt tt tn na1 (spE pSp T tn tp) nk2 ng3, arB X tt 500 (sB T), arI X a1 3 f1, arI X a2 3 f2, arI X a3 3 f3]) A9 s9.heap H locs := hw
      refine W.eq (g2 := F0 m9 46 ls [.int (iI z44)]) rfl ?_
      refine lo_if_eq (tgt := 63) E dX5_readCommand_46 (by decide) (by omega) (fun c45 => ?_) (fun c45 => ?_)
      · skip
        refine lv_iload_n Ex Eb dX5_readCommand_63 rfl (lv_at hl 0 rfl) ?_
        refine lo_if_ne (tgt := 75) E dX5_readCommand_64 (by decide) (by omega) (fun c46 => ?_) (fun c46 => ?_)
        · skip
          refine lv_iload_n Ex Eb dX5_readCommand_75 rfl (lv_at hl 0 rfl) ?_
          refine lv_bipush (v := iI 8) Ex Eb dX5_readCommand_76 rfl ?_
          refine lo_icmp_ne (tgt := 88) E dX5_readCommand_78 (by decide) (by omega) (by omega) (fun c47 => ?_) (fun c47 => ?_)
          · skip
            refine lv_aload_n Ex Eb dX5_readCommand_88 rfl (lv_at hl 1 rfl) ?_
            refine lo_get E hK hw huRX5 3 hf15 rfl 0 rfl rfl (by decide) (v := .int (iI ex)) rfl dX5_readCommand_89 ?_
            refine lv_sipush (v := iI 300) Ex Eb dX5_readCommand_92 rfl ?_
            refine lo_icmp_lt (tgt := 106) E dX5_readCommand_95 (by decide) (by omega) (by omega) (fun c48 => ?_) (fun c48 => ?_)
            · skip
              refine lv_iload_n Ex Eb dX5_readCommand_106 rfl (lv_at hl 0 rfl) ?_
              exact lo_iret E hRt hLk hK hAe hw dX5_readCommand_107 rfl ⟨na1, spE pSp T tn tp, nk2, ng3, 0, eo, dp, f1, f2, f3, cz, 0, (by first | exact RCM_pass rfl rfl (by omega) (by omega) (by rw [hB]; omega) (by omega) (by omega) hf hA.1 q57_0 | exact RCM_rep rfl rfl (by omega) (by omega) (by omega) (by omega) (by omega) hf hA.1 rfl q82_0 | exact RCM_cmd rfl (by omega) hC (by omega) hA.1 rfl | exact RCM_fin rfl rfl rfl (by omega) (by omega) | exact RCM_none rfl rfl (by omega) (by rw [hB]; omega) (by omega) | exact RCM_many rfl rfl (by omega) (by omega)), (by omega), (fun h9 => by first | rfl | exact EPS_o q57_0 h9 | exact BRP_o q82_0 h9 | (exfalso; omega)), rfl, rfl⟩
            · skip
              refine lv_aload_n Ex Eb dX5_readCommand_98 rfl (lv_at hl 1 rfl) ?_
              refine lv_iconst (v := iI 5) Ex Eb dX5_readCommand_99 rfl ?_
              refine lo_callV (q0 := 0) (rest := []) E hK hw (kX5_fail l X xc tg a1 a2 a3 0 ex dp s1 s2 s3 kt 0 eo xt tt tn na1 (spE pSp T tn tp) nk2 ng3 5 ) (cwV 1 E.2.2.2.2 gX5_readCommand_X5_fail rfl rfl rfl (by decide +kernel) ⟨Nat.le_of_ble_eq_true rfl, Nat.le_of_ble_eq_true rfl⟩) rfl rfl [0, 1] rfl (by decide) hl.1 rfl rfl (Nat.le_of_ble_eq_true rfl) dX5_readCommand_100 ⟨Nat.le_of_ble_eq_true rfl, Nat.le_of_ble_eq_true rfl⟩ (fun v w1 H locs hq hw => ?_)
              obtain ⟨rfl, rfl⟩ := hq
              have hw : lo_Wd X ([oX5 xc xt tg 0 ex dp a1 a2 a3 s1 s2 s3 kt 5 (spE pSp T tn tp), oX6 xt tt tn na1 (spE pSp T tn tp) nk2 ng3, arB X tt 500 (sB T), arI X a1 3 f1, arI X a2 3 f2, arI X a3 3 f3]) A9 s9.heap H locs := hw
              refine W.eq (g2 := F0 m9 103 ls []) rfl ?_
              refine lv_goto (tgt := 108) Ex Eb dX5_readCommand_103 (by decide) ?_
              refine lv_iconst (v := iI 0) Ex Eb dX5_readCommand_108 rfl ?_
              exact lo_iret E hRt hLk hK hAe hw dX5_readCommand_109 rfl ⟨na1, spE pSp T tn tp, nk2, ng3, 5, spE pSp T tn tp, dp, f1, f2, f3, 0, 0, (by first | exact RCM_pass rfl rfl (by omega) (by omega) (by rw [hB]; omega) (by omega) (by omega) hf hA.1 q57_0 | exact RCM_rep rfl rfl (by omega) (by omega) (by omega) (by omega) (by omega) hf hA.1 rfl q82_0 | exact RCM_cmd rfl (by omega) hC (by omega) hA.1 rfl | exact RCM_fin rfl rfl rfl (by omega) (by omega) | exact RCM_none rfl rfl (by omega) (by rw [hB]; omega) (by omega) | exact RCM_many rfl rfl (by omega) (by omega)), (by omega), (fun h9 => by first | rfl | exact EPS_o q57_0 h9 | exact BRP_o q82_0 h9 | (exfalso; omega)), rfl, rfl⟩
          · skip
            refine lv_aload_n Ex Eb dX5_readCommand_81 rfl (lv_at hl 1 rfl) ?_
            refine lo_callV (q0 := 0) (rest := []) E hK hw (kX5_beginRepeat l X xc tg a1 a2 a3 0 ex dp s1 s2 s3 kt 0 eo xt tt tn na1 (spE pSp T tn tp) nk2 ng3 T f1 f2 f3 (ht) (hT) (by omega) (by omega) (by omega) (by omega) (by omega) (by omega) (hf) (rfl)) (cwV 0 E.2.2.2.2 gX5_readCommand_X5_beginRepeat rfl rfl rfl (by decide +kernel) ⟨Nat.le_of_ble_eq_true rfl, Nat.le_of_ble_eq_true rfl⟩) rfl rfl [0, 1, 2, 3, 4, 5] rfl (by decide) hl.1 rfl rfl (Nat.le_of_ble_eq_true rfl) dX5_readCommand_82 ⟨Nat.le_of_ble_eq_true rfl, Nat.le_of_ble_eq_true rfl⟩ (fun v w1 H locs hq hw => ?_)
            obtain ⟨na49, nb50, nk51, ng52, ke53, ko54, dq55, g156, g257, g358, q82_0, q82_1, rfl, rfl⟩ := hq
            have hw : lo_Wd X ([oX5 xc xt tg 0 ex dq55 a1 a2 a3 s1 s2 s3 kt ke53 ko54, oX6 xt tt tn na49 nb50 nk51 ng52, arB X tt 500 (sB T), arI X a1 3 g156, arI X a2 3 g257, arI X a3 3 g358]) A9 s9.heap H locs := hw
            refine W.eq (g2 := F0 m9 85 ls []) rfl ?_
            refine lv_goto (tgt := 108) Ex Eb dX5_readCommand_85 (by decide) ?_
            refine lv_iconst (v := iI 0) Ex Eb dX5_readCommand_108 rfl ?_
            exact lo_iret E hRt hLk hK hAe hw dX5_readCommand_109 rfl ⟨na49, nb50, nk51, ng52, ke53, ko54, dq55, g156, g257, g358, 0, 0, (by first | exact RCM_pass rfl rfl (by omega) (by omega) (by rw [hB]; omega) (by omega) (by omega) hf hA.1 q57_0 | exact RCM_rep rfl rfl (by omega) (by omega) (by omega) (by omega) (by omega) hf hA.1 rfl q82_0 | exact RCM_cmd rfl (by omega) hC (by omega) hA.1 rfl | exact RCM_fin rfl rfl rfl (by omega) (by omega) | exact RCM_none rfl rfl (by omega) (by rw [hB]; omega) (by omega) | exact RCM_many rfl rfl (by omega) (by omega)), (by omega), (fun h9 => by first | rfl | exact EPS_o q57_0 h9 | exact BRP_o q82_0 h9 | (exfalso; omega)), rfl, rfl⟩
        · skip
          refine lv_aload_n Ex Eb dX5_readCommand_67 rfl (lv_at hl 1 rfl) ?_
          refine lv_iconst (v := iI 1) Ex Eb dX5_readCommand_68 rfl ?_
          refine lo_callV (q0 := 0) (rest := []) E hK hw (kX5_fail l X xc tg a1 a2 a3 0 ex dp s1 s2 s3 kt 0 eo xt tt tn na1 (spE pSp T tn tp) nk2 ng3 1 ) (cwV 1 E.2.2.2.2 gX5_readCommand_X5_fail rfl rfl rfl (by decide +kernel) ⟨Nat.le_of_ble_eq_true rfl, Nat.le_of_ble_eq_true rfl⟩) rfl rfl [0, 1] rfl (by decide) hl.1 rfl rfl (Nat.le_of_ble_eq_true rfl) dX5_readCommand_69 ⟨Nat.le_of_ble_eq_true rfl, Nat.le_of_ble_eq_true rfl⟩ (fun v w1 H locs hq hw => ?_)
          obtain ⟨rfl, rfl⟩ := hq
          have hw : lo_Wd X ([oX5 xc xt tg 0 ex dp a1 a2 a3 s1 s2 s3 kt 1 (spE pSp T tn tp), oX6 xt tt tn na1 (spE pSp T tn tp) nk2 ng3, arB X tt 500 (sB T), arI X a1 3 f1, arI X a2 3 f2, arI X a3 3 f3]) A9 s9.heap H locs := hw
          refine W.eq (g2 := F0 m9 72 ls []) rfl ?_
          refine lv_goto (tgt := 108) Ex Eb dX5_readCommand_72 (by decide) ?_
          refine lv_iconst (v := iI 0) Ex Eb dX5_readCommand_108 rfl ?_
          exact lo_iret E hRt hLk hK hAe hw dX5_readCommand_109 rfl ⟨na1, spE pSp T tn tp, nk2, ng3, 1, spE pSp T tn tp, dp, f1, f2, f3, 0, 0, (by first | exact RCM_pass rfl rfl (by omega) (by omega) (by rw [hB]; omega) (by omega) (by omega) hf hA.1 q57_0 | exact RCM_rep rfl rfl (by omega) (by omega) (by omega) (by omega) (by omega) hf hA.1 rfl q82_0 | exact RCM_cmd rfl (by omega) hC (by omega) hA.1 rfl | exact RCM_fin rfl rfl rfl (by omega) (by omega) | exact RCM_none rfl rfl (by omega) (by rw [hB]; omega) (by omega) | exact RCM_many rfl rfl (by omega) (by omega)), (by omega), (fun h9 => by first | rfl | exact EPS_o q57_0 h9 | exact BRP_o q82_0 h9 | (exfalso; omega)), rfl, rfl⟩
      · skip
        refine lv_aload_n Ex Eb dX5_readCommand_49 rfl (lv_at hl 1 rfl) ?_
        refine lo_get E hK hw huRX5 4 hf19 rfl 0 rfl rfl (by decide) (v := .int (iI dp)) rfl dX5_readCommand_50 ?_
        refine lo_if_le (tgt := 63) E dX5_readCommand_53 (by decide) (by omega) (fun c59 => ?_) (fun c59 => ?_)
        · skip
          refine lv_iload_n Ex Eb dX5_readCommand_63 rfl (lv_at hl 0 rfl) ?_
          refine lo_if_ne (tgt := 75) E dX5_readCommand_64 (by decide) (by omega) (fun c60 => ?_) (fun c60 => ?_)
          · skip
            refine lv_iload_n Ex Eb dX5_readCommand_75 rfl (lv_at hl 0 rfl) ?_
            refine lv_bipush (v := iI 8) Ex Eb dX5_readCommand_76 rfl ?_
            refine lo_icmp_ne (tgt := 88) E dX5_readCommand_78 (by decide) (by omega) (by omega) (fun c61 => ?_) (fun c61 => ?_)
            · skip
              refine lv_aload_n Ex Eb dX5_readCommand_88 rfl (lv_at hl 1 rfl) ?_
              refine lo_get E hK hw huRX5 3 hf15 rfl 0 rfl rfl (by decide) (v := .int (iI ex)) rfl dX5_readCommand_89 ?_
              refine lv_sipush (v := iI 300) Ex Eb dX5_readCommand_92 rfl ?_
              refine lo_icmp_lt (tgt := 106) E dX5_readCommand_95 (by decide) (by omega) (by omega) (fun c62 => ?_) (fun c62 => ?_)
              · skip
                refine lv_iload_n Ex Eb dX5_readCommand_106 rfl (lv_at hl 0 rfl) ?_
                exact lo_iret E hRt hLk hK hAe hw dX5_readCommand_107 rfl ⟨na1, spE pSp T tn tp, nk2, ng3, 0, eo, dp, f1, f2, f3, cz, 0, (by first | exact RCM_pass rfl rfl (by omega) (by omega) (by rw [hB]; omega) (by omega) (by omega) hf hA.1 q57_0 | exact RCM_rep rfl rfl (by omega) (by omega) (by omega) (by omega) (by omega) hf hA.1 rfl q82_0 | exact RCM_cmd rfl (by omega) hC (by omega) hA.1 rfl | exact RCM_fin rfl rfl rfl (by omega) (by omega) | exact RCM_none rfl rfl (by omega) (by rw [hB]; omega) (by omega) | exact RCM_many rfl rfl (by omega) (by omega)), (by omega), (fun h9 => by first | rfl | exact EPS_o q57_0 h9 | exact BRP_o q82_0 h9 | (exfalso; omega)), rfl, rfl⟩
              · skip
                refine lv_aload_n Ex Eb dX5_readCommand_98 rfl (lv_at hl 1 rfl) ?_
                refine lv_iconst (v := iI 5) Ex Eb dX5_readCommand_99 rfl ?_
                refine lo_callV (q0 := 0) (rest := []) E hK hw (kX5_fail l X xc tg a1 a2 a3 0 ex dp s1 s2 s3 kt 0 eo xt tt tn na1 (spE pSp T tn tp) nk2 ng3 5 ) (cwV 1 E.2.2.2.2 gX5_readCommand_X5_fail rfl rfl rfl (by decide +kernel) ⟨Nat.le_of_ble_eq_true rfl, Nat.le_of_ble_eq_true rfl⟩) rfl rfl [0, 1] rfl (by decide) hl.1 rfl rfl (Nat.le_of_ble_eq_true rfl) dX5_readCommand_100 ⟨Nat.le_of_ble_eq_true rfl, Nat.le_of_ble_eq_true rfl⟩ (fun v w1 H locs hq hw => ?_)
                obtain ⟨rfl, rfl⟩ := hq
                have hw : lo_Wd X ([oX5 xc xt tg 0 ex dp a1 a2 a3 s1 s2 s3 kt 5 (spE pSp T tn tp), oX6 xt tt tn na1 (spE pSp T tn tp) nk2 ng3, arB X tt 500 (sB T), arI X a1 3 f1, arI X a2 3 f2, arI X a3 3 f3]) A9 s9.heap H locs := hw
                refine W.eq (g2 := F0 m9 103 ls []) rfl ?_
                refine lv_goto (tgt := 108) Ex Eb dX5_readCommand_103 (by decide) ?_
                refine lv_iconst (v := iI 0) Ex Eb dX5_readCommand_108 rfl ?_
                exact lo_iret E hRt hLk hK hAe hw dX5_readCommand_109 rfl ⟨na1, spE pSp T tn tp, nk2, ng3, 5, spE pSp T tn tp, dp, f1, f2, f3, 0, 0, (by first | exact RCM_pass rfl rfl (by omega) (by omega) (by rw [hB]; omega) (by omega) (by omega) hf hA.1 q57_0 | exact RCM_rep rfl rfl (by omega) (by omega) (by omega) (by omega) (by omega) hf hA.1 rfl q82_0 | exact RCM_cmd rfl (by omega) hC (by omega) hA.1 rfl | exact RCM_fin rfl rfl rfl (by omega) (by omega) | exact RCM_none rfl rfl (by omega) (by rw [hB]; omega) (by omega) | exact RCM_many rfl rfl (by omega) (by omega)), (by omega), (fun h9 => by first | rfl | exact EPS_o q57_0 h9 | exact BRP_o q82_0 h9 | (exfalso; omega)), rfl, rfl⟩
            · skip
              refine lv_aload_n Ex Eb dX5_readCommand_81 rfl (lv_at hl 1 rfl) ?_
              refine lo_callV (q0 := 0) (rest := []) E hK hw (kX5_beginRepeat l X xc tg a1 a2 a3 0 ex dp s1 s2 s3 kt 0 eo xt tt tn na1 (spE pSp T tn tp) nk2 ng3 T f1 f2 f3 (ht) (hT) (by omega) (by omega) (by omega) (by omega) (by omega) (by omega) (hf) (rfl)) (cwV 0 E.2.2.2.2 gX5_readCommand_X5_beginRepeat rfl rfl rfl (by decide +kernel) ⟨Nat.le_of_ble_eq_true rfl, Nat.le_of_ble_eq_true rfl⟩) rfl rfl [0, 1, 2, 3, 4, 5] rfl (by decide) hl.1 rfl rfl (Nat.le_of_ble_eq_true rfl) dX5_readCommand_82 ⟨Nat.le_of_ble_eq_true rfl, Nat.le_of_ble_eq_true rfl⟩ (fun v w1 H locs hq hw => ?_)
              obtain ⟨na63, nb64, nk65, ng66, ke67, ko68, dq69, g170, g271, g372, q82_0, q82_1, rfl, rfl⟩ := hq
              have hw : lo_Wd X ([oX5 xc xt tg 0 ex dq69 a1 a2 a3 s1 s2 s3 kt ke67 ko68, oX6 xt tt tn na63 nb64 nk65 ng66, arB X tt 500 (sB T), arI X a1 3 g170, arI X a2 3 g271, arI X a3 3 g372]) A9 s9.heap H locs := hw
              refine W.eq (g2 := F0 m9 85 ls []) rfl ?_
              refine lv_goto (tgt := 108) Ex Eb dX5_readCommand_85 (by decide) ?_
              refine lv_iconst (v := iI 0) Ex Eb dX5_readCommand_108 rfl ?_
              exact lo_iret E hRt hLk hK hAe hw dX5_readCommand_109 rfl ⟨na63, nb64, nk65, ng66, ke67, ko68, dq69, g170, g271, g372, 0, 0, (by first | exact RCM_pass rfl rfl (by omega) (by omega) (by rw [hB]; omega) (by omega) (by omega) hf hA.1 q57_0 | exact RCM_rep rfl rfl (by omega) (by omega) (by omega) (by omega) (by omega) hf hA.1 rfl q82_0 | exact RCM_cmd rfl (by omega) hC (by omega) hA.1 rfl | exact RCM_fin rfl rfl rfl (by omega) (by omega) | exact RCM_none rfl rfl (by omega) (by rw [hB]; omega) (by omega) | exact RCM_many rfl rfl (by omega) (by omega)), (by omega), (fun h9 => by first | rfl | exact EPS_o q57_0 h9 | exact BRP_o q82_0 h9 | (exfalso; omega)), rfl, rfl⟩
          · skip
            refine lv_aload_n Ex Eb dX5_readCommand_67 rfl (lv_at hl 1 rfl) ?_
            refine lv_iconst (v := iI 1) Ex Eb dX5_readCommand_68 rfl ?_
            refine lo_callV (q0 := 0) (rest := []) E hK hw (kX5_fail l X xc tg a1 a2 a3 0 ex dp s1 s2 s3 kt 0 eo xt tt tn na1 (spE pSp T tn tp) nk2 ng3 1 ) (cwV 1 E.2.2.2.2 gX5_readCommand_X5_fail rfl rfl rfl (by decide +kernel) ⟨Nat.le_of_ble_eq_true rfl, Nat.le_of_ble_eq_true rfl⟩) rfl rfl [0, 1] rfl (by decide) hl.1 rfl rfl (Nat.le_of_ble_eq_true rfl) dX5_readCommand_69 ⟨Nat.le_of_ble_eq_true rfl, Nat.le_of_ble_eq_true rfl⟩ (fun v w1 H locs hq hw => ?_)
            obtain ⟨rfl, rfl⟩ := hq
            have hw : lo_Wd X ([oX5 xc xt tg 0 ex dp a1 a2 a3 s1 s2 s3 kt 1 (spE pSp T tn tp), oX6 xt tt tn na1 (spE pSp T tn tp) nk2 ng3, arB X tt 500 (sB T), arI X a1 3 f1, arI X a2 3 f2, arI X a3 3 f3]) A9 s9.heap H locs := hw
            refine W.eq (g2 := F0 m9 72 ls []) rfl ?_
            refine lv_goto (tgt := 108) Ex Eb dX5_readCommand_72 (by decide) ?_
            refine lv_iconst (v := iI 0) Ex Eb dX5_readCommand_108 rfl ?_
            exact lo_iret E hRt hLk hK hAe hw dX5_readCommand_109 rfl ⟨na1, spE pSp T tn tp, nk2, ng3, 1, spE pSp T tn tp, dp, f1, f2, f3, 0, 0, (by first | exact RCM_pass rfl rfl (by omega) (by omega) (by rw [hB]; omega) (by omega) (by omega) hf hA.1 q57_0 | exact RCM_rep rfl rfl (by omega) (by omega) (by omega) (by omega) (by omega) hf hA.1 rfl q82_0 | exact RCM_cmd rfl (by omega) hC (by omega) hA.1 rfl | exact RCM_fin rfl rfl rfl (by omega) (by omega) | exact RCM_none rfl rfl (by omega) (by rw [hB]; omega) (by omega) | exact RCM_many rfl rfl (by omega) (by omega)), (by omega), (fun h9 => by first | rfl | exact EPS_o q57_0 h9 | exact BRP_o q82_0 h9 | (exfalso; omega)), rfl, rfl⟩
        · skip
          refine lv_aload_n Ex Eb dX5_readCommand_56 rfl (lv_at hl 1 rfl) ?_
          refine lo_callV (q0 := 0) (rest := []) E hK hw (kX5_endPass l X xc tg a1 a2 a3 0 ex dp s1 s2 s3 kt 0 eo xt tt tn na1 (spE pSp T tn tp) nk2 ng3 T f1 f2 f3 (ht) (hT) (by omega) (by omega) (by omega) (by omega) (by omega) (by omega) (hf) (by omega) (rfl)) (cwV 0 E.2.2.2.2 gX5_readCommand_X5_endPass rfl rfl rfl (by decide +kernel) ⟨Nat.le_of_ble_eq_true rfl, Nat.le_of_ble_eq_true rfl⟩) rfl rfl [0, 1, 2, 3, 4, 5] rfl (by decide) hl.1 rfl rfl (Nat.le_of_ble_eq_true rfl) dX5_readCommand_57 ⟨Nat.le_of_ble_eq_true rfl, Nat.le_of_ble_eq_true rfl⟩ (fun v w1 H locs hq hw => ?_)
          obtain ⟨na73, nb74, nk75, ng76, ke77, ko78, dq79, g380, q57_0, q57_1, rfl, rfl⟩ := hq
          have hw : lo_Wd X ([oX5 xc xt tg 0 ex dq79 a1 a2 a3 s1 s2 s3 kt ke77 ko78, oX6 xt tt tn na73 nb74 nk75 ng76, arB X tt 500 (sB T), arI X a1 3 f1, arI X a2 3 (uI f2 (dp - 1).toNat (f2 (dp - 1).toNat - 1)), arI X a3 3 g380]) A9 s9.heap H locs := hw
          refine W.eq (g2 := F0 m9 60 ls []) rfl ?_
          refine lv_goto (tgt := 108) Ex Eb dX5_readCommand_60 (by decide) ?_
          refine lv_iconst (v := iI 0) Ex Eb dX5_readCommand_108 rfl ?_
          exact lo_iret E hRt hLk hK hAe hw dX5_readCommand_109 rfl ⟨na73, nb74, nk75, ng76, ke77, ko78, dq79, f1, uI f2 (dp - 1).toNat (f2 (dp - 1).toNat - 1), g380, 0, 0, (by first | exact RCM_pass rfl rfl (by omega) (by omega) (by rw [hB]; omega) (by omega) (by omega) hf hA.1 q57_0 | exact RCM_rep rfl rfl (by omega) (by omega) (by omega) (by omega) (by omega) hf hA.1 rfl q82_0 | exact RCM_cmd rfl (by omega) hC (by omega) hA.1 rfl | exact RCM_fin rfl rfl rfl (by omega) (by omega) | exact RCM_none rfl rfl (by omega) (by rw [hB]; omega) (by omega) | exact RCM_many rfl rfl (by omega) (by omega)), (by omega), (fun h9 => by first | rfl | exact EPS_o q57_0 h9 | exact BRP_o q82_0 h9 | (exfalso; omega)), rfl, rfl⟩
    · skip
      refine lv_aload_n Ex Eb dX5_readCommand_29 rfl (lv_at hl 1 rfl) ?_
      refine lv_iconst (v := iI 1) Ex Eb dX5_readCommand_30 rfl ?_
      refine lo_put E hK hw huRX5 tyX5 tyX5_ok nmX5 2 hf9 rfl 0 rfl rfl (by decide) rfl rfl rfl rfl (Nat.le_of_ble_eq_true rfl) (ws' := [oX5 xc xt tg 1 ex dp a1 a2 a3 s1 s2 s3 kt 0 eo, oX6 xt tt tn na1 (spE pSp T tn tp) nk2 ng3, arB X tt 500 (sB T), arI X a1 3 f1, arI X a2 3 f2, arI X a3 3 f3]) rfl dX5_readCommand_31 (fun H locs hw => ?_)
      refine lv_goto (tgt := 108) Ex Eb dX5_readCommand_34 (by decide) ?_
      refine lv_iconst (v := iI 0) Ex Eb dX5_readCommand_108 rfl ?_
      exact lo_iret E hRt hLk hK hAe hw dX5_readCommand_109 rfl ⟨na1, spE pSp T tn tp, nk2, ng3, 0, eo, dp, f1, f2, f3, 0, 1, (by first | exact RCM_pass rfl rfl (by omega) (by omega) (by rw [hB]; omega) (by omega) (by omega) hf hA.1 q57_0 | exact RCM_rep rfl rfl (by omega) (by omega) (by omega) (by omega) (by omega) hf hA.1 rfl q82_0 | exact RCM_cmd rfl (by omega) hC (by omega) hA.1 rfl | exact RCM_fin rfl rfl rfl (by omega) (by omega) | exact RCM_none rfl rfl (by omega) (by rw [hB]; omega) (by omega) | exact RCM_many rfl rfl (by omega) (by omega)), (by omega), (fun h9 => by first | rfl | exact EPS_o q57_0 h9 | exact BRP_o q82_0 h9 | (exfalso; omega)), rfl, rfl⟩
