set_option maxHeartbeats 4000000 in
set_option maxRecDepth 100000 in
theorem kX5_commandOfWord (l : Launch) (X : KX) (kS : Nat → Nat) (xc tg a1 a2 a3 : Nat) (en ex dp s1 s2 s3 kt ek eo : Int) (xt tt : Nat) (tn tp ts tk tv : Int) (T : Nat → Int) (ht : 0 ≤ tn ∧ tn ≤ 500) (hT : ∀ k : Nat, 0 ≤ T k ∧ T k ≤ 255) (hp : 0 ≤ ts ∧ ts ≤ tp ∧ tp ≤ tn) (hk : 0 ≤ tk ∧ tk ≤ 4) (hv : 0 ≤ tv ∧ tv ≤ 9999999) (he : 0 ≤ ek ∧ ek ≤ 9) : CE l X kS yX5_commandOfWord wsX5_commandOfWord ({ frames := 12, cells := 0, slots := 0, locals := 228 }) [.ref xc] ([oX5 xc xt tg en ex dp a1 a2 a3 s1 s2 s3 kt ek eo, oX6 xt tt tn tp ts tk tv, arB X tt 500 (sB T)]) (fun v9 w9 => ∃ z : Int, ((1 ≤ z ∧ z ≤ 8 ∧ WD T tk ts tp z.toNat) ∨ (z = 0 ∧ ∀ i, 1 ≤ i → i ≤ 8 → ¬ WD T tk ts tp i)) ∧ v9 = some (.int (iI z)) ∧ w9 = [oX5 xc xt tg en ex dp a1 a2 a3 s1 s2 s3 kt ek eo, oX6 xt tt tn tp ts tk tv, arB X tt 500 (sB T)]) 0 0 := by
  refine lo_enterE (cc := cX5_commandOfWord) (maxL := 1) (ret := (some .int)) (lv := [(0, .ref xc)]) (by decide) rfl rfl (Nat.le_of_ble_eq_true rfl) ?_
  intro p9 e9 s9 m9 bl9 me9 c9 A9 ls hAe E hRt hLk hK hl hw hV
  have Ex := E.1
  have Eb := E.2.1
  have huRX5 : ∀ w ∈ u_ws RX5 TX5 14, w ∈ wsX5_commandOfWord := by decide +kernel
  have hf55 : (Cond.fieldLink RX5 55 "LoanSchedule$Script" "tokens" "LLoanSchedule$Tokens;").before _ s9 = true := E.2.2.2.2 _ (List.mem_of_getElem? (i := 1) rfl)
  refine lv_aload_n Ex Eb dX5_commandOfWord_0 rfl (lv_at hl 0 rfl) ?_
  refine lo_get E hK hw huRX5 0 hf55 rfl 0 rfl rfl (by decide) (v := .ref xt) rfl dX5_commandOfWord_1 ?_
  refine lo_ldcS E hV 1 (by decide) rfl dX5_commandOfWord_4 ?_
  refine lo_callVE (q0 := 1) (rest := []) E hK hw hV (kX6_isWord l X kS xt tt tn tp ts tk tv T 1 (ht) (hT) (hp) (hk) (by omega)) (cwV 1 E.2.2.2.2 gX5_commandOfWord_X6_isWord rfl rfl rfl (by decide +kernel) ⟨Nat.le_of_ble_eq_true rfl, Nat.le_of_ble_eq_true rfl⟩) rfl rfl [1, 2] rfl (by decide) hl.1 rfl rfl (Nat.le_of_ble_eq_true rfl) dX5_commandOfWord_6 ⟨Nat.le_of_ble_eq_true rfl, Nat.le_of_ble_eq_true rfl⟩ (fun v w1 H locs hq hw => ?_)
  obtain ⟨z1, q6_0, rfl, rfl⟩ := hq
  have hw : lo_Wd X ([oX5 xc xt tg en ex dp a1 a2 a3 s1 s2 s3 kt ek eo, oX6 xt tt tn tp ts tk tv, arB X tt 500 (sB T)]) A9 s9.heap H locs := hw
  refine W.eq (g2 := F0 m9 9 ls [.int (iI z1)]) rfl ?_
  refine lo_if_eq (tgt := 14) E dX5_commandOfWord_9 (by decide) (by omega) (fun c2 => ?_) (fun c2 => ?_)
  · skip
    refine lv_aload_n Ex Eb dX5_commandOfWord_14 rfl (lv_at hl 0 rfl) ?_
    refine lo_get E hK hw huRX5 0 hf55 rfl 0 rfl rfl (by decide) (v := .ref xt) rfl dX5_commandOfWord_15 ?_
    refine lo_ldcS E hV 2 (by decide) rfl dX5_commandOfWord_18 ?_
    refine lo_callVE (q0 := 1) (rest := []) E hK hw hV (kX6_isWord l X kS xt tt tn tp ts tk tv T 2 (ht) (hT) (hp) (hk) (by omega)) (cwV 1 E.2.2.2.2 gX5_commandOfWord_X6_isWord rfl rfl rfl (by decide +kernel) ⟨Nat.le_of_ble_eq_true rfl, Nat.le_of_ble_eq_true rfl⟩) rfl rfl [1, 2] rfl (by decide) hl.1 rfl rfl (Nat.le_of_ble_eq_true rfl) dX5_commandOfWord_20 ⟨Nat.le_of_ble_eq_true rfl, Nat.le_of_ble_eq_true rfl⟩ (fun v w1 H locs hq hw => ?_)
    obtain ⟨z3, q20_0, rfl, rfl⟩ := hq
    have hw : lo_Wd X ([oX5 xc xt tg en ex dp a1 a2 a3 s1 s2 s3 kt ek eo, oX6 xt tt tn tp ts tk tv, arB X tt 500 (sB T)]) A9 s9.heap H locs := hw
    refine W.eq (g2 := F0 m9 23 ls [.int (iI z3)]) rfl ?_
    refine lo_if_eq (tgt := 28) E dX5_commandOfWord_23 (by decide) (by omega) (fun c4 => ?_) (fun c4 => ?_)
    · skip
      refine lv_aload_n Ex Eb dX5_commandOfWord_28 rfl (lv_at hl 0 rfl) ?_
      refine lo_get E hK hw huRX5 0 hf55 rfl 0 rfl rfl (by decide) (v := .ref xt) rfl dX5_commandOfWord_29 ?_
      refine lo_ldcS E hV 3 (by decide) rfl dX5_commandOfWord_32 ?_
      refine lo_callVE (q0 := 1) (rest := []) E hK hw hV (kX6_isWord l X kS xt tt tn tp ts tk tv T 3 (ht) (hT) (hp) (hk) (by omega)) (cwV 1 E.2.2.2.2 gX5_commandOfWord_X6_isWord rfl rfl rfl (by decide +kernel) ⟨Nat.le_of_ble_eq_true rfl, Nat.le_of_ble_eq_true rfl⟩) rfl rfl [1, 2] rfl (by decide) hl.1 rfl rfl (Nat.le_of_ble_eq_true rfl) dX5_commandOfWord_34 ⟨Nat.le_of_ble_eq_true rfl, Nat.le_of_ble_eq_true rfl⟩ (fun v w1 H locs hq hw => ?_)
      obtain ⟨z5, q34_0, rfl, rfl⟩ := hq
      have hw : lo_Wd X ([oX5 xc xt tg en ex dp a1 a2 a3 s1 s2 s3 kt ek eo, oX6 xt tt tn tp ts tk tv, arB X tt 500 (sB T)]) A9 s9.heap H locs := hw
      refine W.eq (g2 := F0 m9 37 ls [.int (iI z5)]) rfl ?_
      refine lo_if_eq (tgt := 42) E dX5_commandOfWord_37 (by decide) (by omega) (fun c6 => ?_) (fun c6 => ?_)
      · skip
        refine lv_aload_n Ex Eb dX5_commandOfWord_42 rfl (lv_at hl 0 rfl) ?_
        refine lo_get E hK hw huRX5 0 hf55 rfl 0 rfl rfl (by decide) (v := .ref xt) rfl dX5_commandOfWord_43 ?_
        refine lo_ldcS E hV 4 (by decide) rfl dX5_commandOfWord_46 ?_
        refine lo_callVE (q0 := 1) (rest := []) E hK hw hV (kX6_isWord l X kS xt tt tn tp ts tk tv T 4 (ht) (hT) (hp) (hk) (by omega)) (cwV 1 E.2.2.2.2 gX5_commandOfWord_X6_isWord rfl rfl rfl (by decide +kernel) ⟨Nat.le_of_ble_eq_true rfl, Nat.le_of_ble_eq_true rfl⟩) rfl rfl [1, 2] rfl (by decide) hl.1 rfl rfl (Nat.le_of_ble_eq_true rfl) dX5_commandOfWord_48 ⟨Nat.le_of_ble_eq_true rfl, Nat.le_of_ble_eq_true rfl⟩ (fun v w1 H locs hq hw => ?_)
        obtain ⟨z7, q48_0, rfl, rfl⟩ := hq
        have hw : lo_Wd X ([oX5 xc xt tg en ex dp a1 a2 a3 s1 s2 s3 kt ek eo, oX6 xt tt tn tp ts tk tv, arB X tt 500 (sB T)]) A9 s9.heap H locs := hw
        refine W.eq (g2 := F0 m9 51 ls [.int (iI z7)]) rfl ?_
        refine lo_if_eq (tgt := 56) E dX5_commandOfWord_51 (by decide) (by omega) (fun c8 => ?_) (fun c8 => ?_)
        · skip
          refine lv_aload_n Ex Eb dX5_commandOfWord_56 rfl (lv_at hl 0 rfl) ?_
          refine lo_get E hK hw huRX5 0 hf55 rfl 0 rfl rfl (by decide) (v := .ref xt) rfl dX5_commandOfWord_57 ?_
          refine lo_ldcS E hV 5 (by decide) rfl dX5_commandOfWord_60 ?_
          refine lo_callVE (q0 := 1) (rest := []) E hK hw hV (kX6_isWord l X kS xt tt tn tp ts tk tv T 5 (ht) (hT) (hp) (hk) (by omega)) (cwV 1 E.2.2.2.2 gX5_commandOfWord_X6_isWord rfl rfl rfl (by decide +kernel) ⟨Nat.le_of_ble_eq_true rfl, Nat.le_of_ble_eq_true rfl⟩) rfl rfl [1, 2] rfl (by decide) hl.1 rfl rfl (Nat.le_of_ble_eq_true rfl) dX5_commandOfWord_62 ⟨Nat.le_of_ble_eq_true rfl, Nat.le_of_ble_eq_true rfl⟩ (fun v w1 H locs hq hw => ?_)
          obtain ⟨z9, q62_0, rfl, rfl⟩ := hq
          have hw : lo_Wd X ([oX5 xc xt tg en ex dp a1 a2 a3 s1 s2 s3 kt ek eo, oX6 xt tt tn tp ts tk tv, arB X tt 500 (sB T)]) A9 s9.heap H locs := hw
          refine W.eq (g2 := F0 m9 65 ls [.int (iI z9)]) rfl ?_
          refine lo_if_eq (tgt := 70) E dX5_commandOfWord_65 (by decide) (by omega) (fun c10 => ?_) (fun c10 => ?_)
          · skip
            refine lv_aload_n Ex Eb dX5_commandOfWord_70 rfl (lv_at hl 0 rfl) ?_
            refine lo_get E hK hw huRX5 0 hf55 rfl 0 rfl rfl (by decide) (v := .ref xt) rfl dX5_commandOfWord_71 ?_
            refine lo_ldcS E hV 6 (by decide) rfl dX5_commandOfWord_74 ?_
            refine lo_callVE (q0 := 1) (rest := []) E hK hw hV (kX6_isWord l X kS xt tt tn tp ts tk tv T 6 (ht) (hT) (hp) (hk) (by omega)) (cwV 1 E.2.2.2.2 gX5_commandOfWord_X6_isWord rfl rfl rfl (by decide +kernel) ⟨Nat.le_of_ble_eq_true rfl, Nat.le_of_ble_eq_true rfl⟩) rfl rfl [1, 2] rfl (by decide) hl.1 rfl rfl (Nat.le_of_ble_eq_true rfl) dX5_commandOfWord_76 ⟨Nat.le_of_ble_eq_true rfl, Nat.le_of_ble_eq_true rfl⟩ (fun v w1 H locs hq hw => ?_)
            obtain ⟨z11, q76_0, rfl, rfl⟩ := hq
            have hw : lo_Wd X ([oX5 xc xt tg en ex dp a1 a2 a3 s1 s2 s3 kt ek eo, oX6 xt tt tn tp ts tk tv, arB X tt 500 (sB T)]) A9 s9.heap H locs := hw
            refine W.eq (g2 := F0 m9 79 ls [.int (iI z11)]) rfl ?_
            refine lo_if_eq (tgt := 85) E dX5_commandOfWord_79 (by decide) (by omega) (fun c12 => ?_) (fun c12 => ?_)
            · skip
              refine lv_aload_n Ex Eb dX5_commandOfWord_85 rfl (lv_at hl 0 rfl) ?_
              refine lo_get E hK hw huRX5 0 hf55 rfl 0 rfl rfl (by decide) (v := .ref xt) rfl dX5_commandOfWord_86 ?_
              refine lo_ldcS E hV 7 (by decide) rfl dX5_commandOfWord_89 ?_
              refine lo_callVE (q0 := 1) (rest := []) E hK hw hV (kX6_isWord l X kS xt tt tn tp ts tk tv T 7 (ht) (hT) (hp) (hk) (by omega)) (cwV 1 E.2.2.2.2 gX5_commandOfWord_X6_isWord rfl rfl rfl (by decide +kernel) ⟨Nat.le_of_ble_eq_true rfl, Nat.le_of_ble_eq_true rfl⟩) rfl rfl [1, 2] rfl (by decide) hl.1 rfl rfl (Nat.le_of_ble_eq_true rfl) dX5_commandOfWord_91 ⟨Nat.le_of_ble_eq_true rfl, Nat.le_of_ble_eq_true rfl⟩ (fun v w1 H locs hq hw => ?_)
              obtain ⟨z13, q91_0, rfl, rfl⟩ := hq
              have hw : lo_Wd X ([oX5 xc xt tg en ex dp a1 a2 a3 s1 s2 s3 kt ek eo, oX6 xt tt tn tp ts tk tv, arB X tt 500 (sB T)]) A9 s9.heap H locs := hw
              refine W.eq (g2 := F0 m9 94 ls [.int (iI z13)]) rfl ?_
              refine lo_if_eq (tgt := 100) E dX5_commandOfWord_94 (by decide) (by omega) (fun c14 => ?_) (fun c14 => ?_)
              · skip
                refine lv_aload_n Ex Eb dX5_commandOfWord_100 rfl (lv_at hl 0 rfl) ?_
                refine lo_get E hK hw huRX5 0 hf55 rfl 0 rfl rfl (by decide) (v := .ref xt) rfl dX5_commandOfWord_101 ?_
                refine lo_ldcS E hV 8 (by decide) rfl dX5_commandOfWord_104 ?_
                refine lo_callVE (q0 := 1) (rest := []) E hK hw hV (kX6_isWord l X kS xt tt tn tp ts tk tv T 8 (ht) (hT) (hp) (hk) (by omega)) (cwV 1 E.2.2.2.2 gX5_commandOfWord_X6_isWord rfl rfl rfl (by decide +kernel) ⟨Nat.le_of_ble_eq_true rfl, Nat.le_of_ble_eq_true rfl⟩) rfl rfl [1, 2] rfl (by decide) hl.1 rfl rfl (Nat.le_of_ble_eq_true rfl) dX5_commandOfWord_106 ⟨Nat.le_of_ble_eq_true rfl, Nat.le_of_ble_eq_true rfl⟩ (fun v w1 H locs hq hw => ?_)
                obtain ⟨z15, q106_0, rfl, rfl⟩ := hq
                have hw : lo_Wd X ([oX5 xc xt tg en ex dp a1 a2 a3 s1 s2 s3 kt ek eo, oX6 xt tt tn tp ts tk tv, arB X tt 500 (sB T)]) A9 s9.heap H locs := hw
                refine W.eq (g2 := F0 m9 109 ls [.int (iI z15)]) rfl ?_
                refine lo_if_eq (tgt := 117) E dX5_commandOfWord_109 (by decide) (by omega) (fun c16 => ?_) (fun c16 => ?_)
                · skip
                  refine lv_iconst (v := iI 0) Ex Eb dX5_commandOfWord_117 rfl ?_
                  exact lo_iret E hRt hLk hK hAe hw dX5_commandOfWord_118 rfl ⟨0, (by first | exact Or.inl ⟨by omega, by omega, wdY q106_0 (by omega)⟩ | exact Or.inr ⟨by omega, all8 (P := WD T tk ts tp) (wdN q6_0 (by omega)) (wdN q20_0 (by omega)) (wdN q34_0 (by omega)) (wdN q48_0 (by omega)) (wdN q62_0 (by omega)) (wdN q76_0 (by omega)) (wdN q91_0 (by omega)) (wdN q106_0 (by omega))⟩), rfl, rfl⟩
                · skip
                  refine lv_bipush (v := iI 8) Ex Eb dX5_commandOfWord_112 rfl ?_
                  refine lv_goto (tgt := 118) Ex Eb dX5_commandOfWord_114 (by decide) ?_
                  exact lo_iret E hRt hLk hK hAe hw dX5_commandOfWord_118 rfl ⟨8, (by first | exact Or.inl ⟨by omega, by omega, wdY q106_0 (by omega)⟩ | exact Or.inr ⟨by omega, all8 (P := WD T tk ts tp) (wdN q6_0 (by omega)) (wdN q20_0 (by omega)) (wdN q34_0 (by omega)) (wdN q48_0 (by omega)) (wdN q62_0 (by omega)) (wdN q76_0 (by omega)) (wdN q91_0 (by omega)) (wdN q106_0 (by omega))⟩), rfl, rfl⟩
              · skip
                refine lv_bipush (v := iI 7) Ex Eb dX5_commandOfWord_97 rfl ?_
                exact lo_iret E hRt hLk hK hAe hw dX5_commandOfWord_99 rfl ⟨7, (Or.inl ⟨by omega, by omega, wdY q91_0 (by omega)⟩), rfl, rfl⟩
            · skip
              refine lv_bipush (v := iI 6) Ex Eb dX5_commandOfWord_82 rfl ?_
              exact lo_iret E hRt hLk hK hAe hw dX5_commandOfWord_84 rfl ⟨6, (Or.inl ⟨by omega, by omega, wdY q76_0 (by omega)⟩), rfl, rfl⟩
          · skip
            refine lv_iconst (v := iI 5) Ex Eb dX5_commandOfWord_68 rfl ?_
            exact lo_iret E hRt hLk hK hAe hw dX5_commandOfWord_69 rfl ⟨5, (Or.inl ⟨by omega, by omega, wdY q62_0 (by omega)⟩), rfl, rfl⟩
        · skip
          refine lv_iconst (v := iI 4) Ex Eb dX5_commandOfWord_54 rfl ?_
          exact lo_iret E hRt hLk hK hAe hw dX5_commandOfWord_55 rfl ⟨4, (Or.inl ⟨by omega, by omega, wdY q48_0 (by omega)⟩), rfl, rfl⟩
      · skip
        refine lv_iconst (v := iI 3) Ex Eb dX5_commandOfWord_40 rfl ?_
        exact lo_iret E hRt hLk hK hAe hw dX5_commandOfWord_41 rfl ⟨3, (Or.inl ⟨by omega, by omega, wdY q34_0 (by omega)⟩), rfl, rfl⟩
    · skip
      refine lv_iconst (v := iI 2) Ex Eb dX5_commandOfWord_26 rfl ?_
      exact lo_iret E hRt hLk hK hAe hw dX5_commandOfWord_27 rfl ⟨2, (Or.inl ⟨by omega, by omega, wdY q20_0 (by omega)⟩), rfl, rfl⟩
  · skip
    refine lv_iconst (v := iI 1) Ex Eb dX5_commandOfWord_12 rfl ?_
    exact lo_iret E hRt hLk hK hAe hw dX5_commandOfWord_13 rfl ⟨1, (Or.inl ⟨by omega, by omega, wdY q6_0 (by omega)⟩), rfl, rfl⟩
set_option maxHeartbeats 4000000 in
set_option maxRecDepth 100000 in
theorem kX5_expectLoans (l : Launch) (X : KX) (kS : Nat → Nat) (xc tg a1 a2 a3 : Nat) (en ex dp s1 s2 s3 kt ek eo : Int) (xt tt : Nat) (tn tp ts tk tv : Int) (T : Nat → Int) (ht : 0 ≤ tn ∧ tn ≤ 500) (hT : ∀ k : Nat, 0 ≤ T k ∧ T k ≤ 255) (hp : 0 ≤ ts ∧ ts ≤ tp ∧ tp ≤ tn) (hk : 0 ≤ tk ∧ tk ≤ 4) (hv : 0 ≤ tv ∧ tv ≤ 9999999) (he : 0 ≤ ek ∧ ek ≤ 9) : CE l X kS yX5_expectLoans wsX5_expectLoans ({ frames := 12, cells := 0, slots := 0, locals := 228 }) [.ref xc] ([oX5 xc xt tg en ex dp a1 a2 a3 s1 s2 s3 kt ek eo, oX6 xt tt tn tp ts tk tv, arB X tt 500 (sB T)]) (fun v9 w9 => ∃ na : Int, ∃ nb : Int, ∃ nk : Int, ∃ ng : Int, ∃ ke : Int, ∃ ko : Int, (nb = spE pSp T tn tp ∧ SCK T tn nb tv na nk ng) ∧ ((0 ≤ nb ∧ nb ≤ na ∧ na ≤ tn) ∧ (0 ≤ nk ∧ nk ≤ 4) ∧ (0 ≤ ng ∧ ng ≤ 9999999) ∧ 0 ≤ ke ∧ ke ≤ 9) ∧ ((WD T nk nb na 0 ∧ ke = ek ∧ ko = eo) ∨ (¬ WD T nk nb na 0 ∧ ke = 1 ∧ ko = nb)) ∧ v9 = none ∧ w9 = [oX5 xc xt tg en ex dp a1 a2 a3 s1 s2 s3 kt ke ko, oX6 xt tt tn na nb nk ng, arB X tt 500 (sB T)]) 0 0 := by
  refine lo_enterE (cc := cX5_expectLoans) (maxL := 1) (ret := none) (lv := [(0, .ref xc)]) (by decide) rfl rfl (Nat.le_of_ble_eq_true rfl) ?_
  intro p9 e9 s9 m9 bl9 me9 c9 A9 ls hAe E hRt hLk hK hl hw hV
  have Ex := E.1
  have Eb := E.2.1
  have huRX5 : ∀ w ∈ u_ws RX5 TX5 14, w ∈ wsX5_expectLoans := by decide +kernel
  have hf55 : (Cond.fieldLink RX5 55 "LoanSchedule$Script" "tokens" "LLoanSchedule$Tokens;").before _ s9 = true := E.2.2.2.2 _ (List.mem_of_getElem? (i := 1) rfl)
  refine lv_aload_n Ex Eb dX5_expectLoans_0 rfl (lv_at hl 0 rfl) ?_
  refine lo_get E hK hw huRX5 0 hf55 rfl 0 rfl rfl (by decide) (v := .ref xt) rfl dX5_expectLoans_1 ?_
  refine lo_callV (q0 := 1) (rest := []) E hK hw (kX6_advance l X xt tt tn tp ts tk tv T (ht) (hT) (by omega) (hv)) (cwV 0 E.2.2.2.2 gX5_expectLoans_X6_advance rfl rfl rfl (by decide +kernel) ⟨Nat.le_of_ble_eq_true rfl, Nat.le_of_ble_eq_true rfl⟩) rfl rfl [1, 2] rfl (by decide) hl.1 rfl rfl (Nat.le_of_ble_eq_true rfl) dX5_expectLoans_4 ⟨Nat.le_of_ble_eq_true rfl, Nat.le_of_ble_eq_true rfl⟩ (fun v w1 H locs hq hw => ?_)
  obtain ⟨na1, nk2, ng3, q4_0, q4_1, rfl, rfl⟩ := hq
  have hw : lo_Wd X ([oX5 xc xt tg en ex dp a1 a2 a3 s1 s2 s3 kt ek eo, oX6 xt tt tn na1 (spE pSp T tn tp) nk2 ng3, arB X tt 500 (sB T)]) A9 s9.heap H locs := hw
  refine W.eq (g2 := F0 m9 7 ls []) rfl ?_
  have hnk := SCK_k q4_0
  have hsr := spE_r pSp (T := T) (n := tn) (x := tp) (by omega)
  refine lv_aload_n Ex Eb dX5_expectLoans_7 rfl (lv_at hl 0 rfl) ?_
  refine lo_get E hK hw huRX5 0 hf55 rfl 0 rfl rfl (by decide) (v := .ref xt) rfl dX5_expectLoans_8 ?_
  refine lo_ldcS E hV 0 (by decide) rfl dX5_expectLoans_11 ?_
  refine lo_callVE (q0 := 1) (rest := []) E hK hw hV (kX6_isWord l X kS xt tt tn na1 (spE pSp T tn tp) nk2 ng3 T 0 (ht) (hT) (by omega) (hnk) (by omega)) (cwV 1 E.2.2.2.2 gX5_expectLoans_X6_isWord rfl rfl rfl (by decide +kernel) ⟨Nat.le_of_ble_eq_true rfl, Nat.le_of_ble_eq_true rfl⟩) rfl rfl [1, 2] rfl (by decide) hl.1 rfl rfl (Nat.le_of_ble_eq_true rfl) dX5_expectLoans_13 ⟨Nat.le_of_ble_eq_true rfl, Nat.le_of_ble_eq_true rfl⟩ (fun v w1 H locs hq hw => ?_)
  obtain ⟨z4, q13_0, rfl, rfl⟩ := hq
  have hw : lo_Wd X ([oX5 xc xt tg en ex dp a1 a2 a3 s1 s2 s3 kt ek eo, oX6 xt tt tn na1 (spE pSp T tn tp) nk2 ng3, arB X tt 500 (sB T)]) A9 s9.heap H locs := hw
  refine W.eq (g2 := F0 m9 16 ls [.int (iI z4)]) rfl ?_
  refine lo_if_ne (tgt := 24) E dX5_expectLoans_16 (by decide) (by omega) (fun c5 => ?_) (fun c5 => ?_)
  · skip
    exact lo_vret E hRt hLk hK hAe hw dX5_expectLoans_24 rfl ⟨na1, spE pSp T tn tp, nk2, ng3, ek, eo, (⟨rfl, q4_0⟩), (by omega), (by first | exact Or.inl ⟨wdY q13_0 (by omega), rfl, rfl⟩ | exact Or.inr ⟨wdN q13_0 (by omega), rfl, rfl⟩), rfl, rfl⟩
  · skip
    refine lv_aload_n Ex Eb dX5_expectLoans_19 rfl (lv_at hl 0 rfl) ?_
    refine lv_iconst (v := iI 1) Ex Eb dX5_expectLoans_20 rfl ?_
    refine lo_callV (q0 := 0) (rest := []) E hK hw (kX5_fail l X xc tg a1 a2 a3 en ex dp s1 s2 s3 kt ek eo xt tt tn na1 (spE pSp T tn tp) nk2 ng3 1 ) (cwV 1 E.2.2.2.2 gX5_expectLoans_X5_fail rfl rfl rfl (by decide +kernel) ⟨Nat.le_of_ble_eq_true rfl, Nat.le_of_ble_eq_true rfl⟩) rfl rfl [0, 1] rfl (by decide) hl.1 rfl rfl (Nat.le_of_ble_eq_true rfl) dX5_expectLoans_21 ⟨Nat.le_of_ble_eq_true rfl, Nat.le_of_ble_eq_true rfl⟩ (fun v w1 H locs hq hw => ?_)
    obtain ⟨rfl, rfl⟩ := hq
    have hw : lo_Wd X ([oX5 xc xt tg en ex dp a1 a2 a3 s1 s2 s3 kt 1 (spE pSp T tn tp), oX6 xt tt tn na1 (spE pSp T tn tp) nk2 ng3, arB X tt 500 (sB T)]) A9 s9.heap H locs := hw
    refine W.eq (g2 := F0 m9 24 ls []) rfl ?_
    exact lo_vret E hRt hLk hK hAe hw dX5_expectLoans_24 rfl ⟨na1, spE pSp T tn tp, nk2, ng3, 1, spE pSp T tn tp, (⟨rfl, q4_0⟩), (by omega), (by first | exact Or.inl ⟨wdY q13_0 (by omega), rfl, rfl⟩ | exact Or.inr ⟨wdN q13_0 (by omega), rfl, rfl⟩), rfl, rfl⟩
set_option maxHeartbeats 4000000 in
set_option maxRecDepth 100000 in
theorem kX8_isCommand (l : Launch) (X : KX) (kS : Nat → Nat) (d : Nat → Nat) (M T : Nat → Int) (ht : 0 ≤ M 9 ∧ M 9 ≤ 500) (hT : ∀ k : Nat, 0 ≤ T k ∧ T k ≤ 255) (ha : 0 ≤ M 21 ∧ M 21 ≤ M 20 ∧ M 20 ≤ M 9) (he : i32 (M 24)) (hk : 0 ≤ M 22 ∧ M 22 ≤ 6) : CE l X kS yX8_isCommand wsX8_isCommand ({ frames := 12, cells := 0, slots := 0, locals := 229 }) [.ref (d 0)] ([oX8 (d 0) (M 0) (d 1) (d 2) (M 3) (d 3) (M 5) (d 4) (d 5) (d 6) (M 9) (d 7) (M 11) (M 12) (M 13) (M 14) (M 15) (M 16) (M 17) (M 18) (M 19) (M 20) (M 21) (M 22) (M 23) (M 24) (M 25) (M 26) (M 27) (M 28), arI X (d 6) 500 T]) (fun v9 w9 => ∃ z : Int, ((z = 1 ∧ ∃ i, 11 ≤ i ∧ i ≤ 17 ∧ W8 T M i) ∨ (z = 0 ∧ ∀ i, 11 ≤ i → i ≤ 17 → ¬ W8 T M i)) ∧ v9 = some (.int (iI z)) ∧ w9 = [oX8 (d 0) (M 0) (d 1) (d 2) (M 3) (d 3) (M 5) (d 4) (d 5) (d 6) (M 9) (d 7) (M 11) (M 12) (M 13) (M 14) (M 15) (M 16) (M 17) (M 18) (M 19) (M 20) (M 21) (M 22) (M 23) (M 24) (M 25) (M 26) (M 27) (M 28), arI X (d 6) 500 T]) 0 0 := by
  refine lo_enterE (cc := cX8_isCommand) (maxL := 2) (ret := (some .boolean)) (lv := [(0, .ref (d 0))]) (by decide) rfl rfl (Nat.le_of_ble_eq_true rfl) ?_
  intro p9 e9 s9 m9 bl9 me9 c9 A9 ls hAe E hRt hLk hK hl hw hV
  have Ex := E.1
  have Eb := E.2.1
  refine lv_aload_n Ex Eb dX8_isCommand_0 rfl (lv_at hl 0 rfl) ?_
  refine lo_ldcwS E hV 11 (by decide) rfl dX8_isCommand_1 ?_
  refine lo_callVE (q0 := 0) (rest := []) E hK hw hV (kX8_isWord l X kS d M T 11 (ht) (hT) (ha) (he) (hk) (by omega)) (cwV 1 E.2.2.2.2 gX8_isCommand_X8_isWord rfl rfl rfl (by decide +kernel) ⟨Nat.le_of_ble_eq_true rfl, Nat.le_of_ble_eq_true rfl⟩) rfl rfl [0, 1] rfl (by decide) hl.1 rfl rfl (Nat.le_of_ble_eq_true rfl) dX8_isCommand_4 ⟨Nat.le_of_ble_eq_true rfl, Nat.le_of_ble_eq_true rfl⟩ (fun v w1 H locs hq hw => ?_)
  obtain ⟨z1, q4_0, rfl, rfl⟩ := hq
  have hw : lo_Wd X ([oX8 (d 0) (M 0) (d 1) (d 2) (M 3) (d 3) (M 5) (d 4) (d 5) (d 6) (M 9) (d 7) (M 11) (M 12) (M 13) (M 14) (M 15) (M 16) (M 17) (M 18) (M 19) (M 20) (M 21) (M 22) (M 23) (M 24) (M 25) (M 26) (M 27) (M 28), arI X (d 6) 500 T]) A9 s9.heap H locs := hw
  refine W.eq (g2 := F0 m9 7 ls [.int (iI z1)]) rfl ?_
  refine lo_if_ne (tgt := 40) E dX8_isCommand_7 (by decide) (by omega) (fun c2 => ?_) (fun c2 => ?_)
  · skip
    refine lv_iconst (v := iI 1) Ex Eb dX8_isCommand_40 rfl ?_
    refine lv_goto (tgt := 45) Ex Eb dX8_isCommand_41 (by decide) ?_
    refine lv_istore_n (lv' := [(1, .int (iI 1)), (0, .ref (d 0))]) Ex Eb dX8_isCommand_45 rfl hl (by decide) rfl (fun ls hl => ?_)
    refine lv_iload_n Ex Eb dX8_isCommand_46 rfl (lv_at hl 0 rfl) ?_
    refine lo_if_ne (tgt := 80) E dX8_isCommand_47 (by decide) (by omega) (fun c3 => ?_) (fun c3 => ?_)
    · skip
      refine lv_iconst (v := iI 1) Ex Eb dX8_isCommand_80 rfl ?_
      refine lv_goto (tgt := 85) Ex Eb dX8_isCommand_81 (by decide) ?_
      exact lo_zret E hRt hLk hK hAe hw dX8_isCommand_85 rfl rfl ⟨1, (by first | exact Or.inl ⟨rfl, 11, by omega, by omega, wdY q4_0 (by omega)⟩ | exact Or.inl ⟨rfl, 12, by omega, by omega, wdY q14_0 (by omega)⟩ | exact Or.inl ⟨rfl, 13, by omega, by omega, wdY q24_0 (by omega)⟩ | exact Or.inl ⟨rfl, 14, by omega, by omega, wdY q34_0 (by omega)⟩ | exact Or.inl ⟨rfl, 15, by omega, by omega, wdY q54_0 (by omega)⟩ | exact Or.inl ⟨rfl, 16, by omega, by omega, wdY q64_0 (by omega)⟩ | exact Or.inl ⟨rfl, 17, by omega, by omega, wdY q74_0 (by omega)⟩ | exact Or.inr ⟨rfl, all7 (P := W8 T M) (wdN q4_0 (by omega)) (wdN q14_0 (by omega)) (wdN q24_0 (by omega)) (wdN q34_0 (by omega)) (wdN q54_0 (by omega)) (wdN q64_0 (by omega)) (wdN q74_0 (by omega))⟩), rfl, rfl⟩
    · exact absurd c3 (by omega)
  · skip
    refine lv_aload_n Ex Eb dX8_isCommand_10 rfl (lv_at hl 0 rfl) ?_
    refine lo_ldcwS E hV 12 (by decide) rfl dX8_isCommand_11 ?_
    refine lo_callVE (q0 := 0) (rest := []) E hK hw hV (kX8_isWord l X kS d M T 12 (ht) (hT) (ha) (he) (hk) (by omega)) (cwV 1 E.2.2.2.2 gX8_isCommand_X8_isWord rfl rfl rfl (by decide +kernel) ⟨Nat.le_of_ble_eq_true rfl, Nat.le_of_ble_eq_true rfl⟩) rfl rfl [0, 1] rfl (by decide) hl.1 rfl rfl (Nat.le_of_ble_eq_true rfl) dX8_isCommand_14 ⟨Nat.le_of_ble_eq_true rfl, Nat.le_of_ble_eq_true rfl⟩ (fun v w1 H locs hq hw => ?_)
    obtain ⟨z4, q14_0, rfl, rfl⟩ := hq
    have hw : lo_Wd X ([oX8 (d 0) (M 0) (d 1) (d 2) (M 3) (d 3) (M 5) (d 4) (d 5) (d 6) (M 9) (d 7) (M 11) (M 12) (M 13) (M 14) (M 15) (M 16) (M 17) (M 18) (M 19) (M 20) (M 21) (M 22) (M 23) (M 24) (M 25) (M 26) (M 27) (M 28), arI X (d 6) 500 T]) A9 s9.heap H locs := hw
    refine W.eq (g2 := F0 m9 17 ls [.int (iI z4)]) rfl ?_
    refine lo_if_ne (tgt := 40) E dX8_isCommand_17 (by decide) (by omega) (fun c5 => ?_) (fun c5 => ?_)
    · skip
      refine lv_iconst (v := iI 1) Ex Eb dX8_isCommand_40 rfl ?_
      refine lv_goto (tgt := 45) Ex Eb dX8_isCommand_41 (by decide) ?_
      refine lv_istore_n (lv' := [(1, .int (iI 1)), (0, .ref (d 0))]) Ex Eb dX8_isCommand_45 rfl hl (by decide) rfl (fun ls hl => ?_)
      refine lv_iload_n Ex Eb dX8_isCommand_46 rfl (lv_at hl 0 rfl) ?_
      refine lo_if_ne (tgt := 80) E dX8_isCommand_47 (by decide) (by omega) (fun c6 => ?_) (fun c6 => ?_)
      · skip
        refine lv_iconst (v := iI 1) Ex Eb dX8_isCommand_80 rfl ?_
        refine lv_goto (tgt := 85) Ex Eb dX8_isCommand_81 (by decide) ?_
        exact lo_zret E hRt hLk hK hAe hw dX8_isCommand_85 rfl rfl ⟨1, (by first | exact Or.inl ⟨rfl, 11, by omega, by omega, wdY q4_0 (by omega)⟩ | exact Or.inl ⟨rfl, 12, by omega, by omega, wdY q14_0 (by omega)⟩ | exact Or.inl ⟨rfl, 13, by omega, by omega, wdY q24_0 (by omega)⟩ | exact Or.inl ⟨rfl, 14, by omega, by omega, wdY q34_0 (by omega)⟩ | exact Or.inl ⟨rfl, 15, by omega, by omega, wdY q54_0 (by omega)⟩ | exact Or.inl ⟨rfl, 16, by omega, by omega, wdY q64_0 (by omega)⟩ | exact Or.inl ⟨rfl, 17, by omega, by omega, wdY q74_0 (by omega)⟩ | exact Or.inr ⟨rfl, all7 (P := W8 T M) (wdN q4_0 (by omega)) (wdN q14_0 (by omega)) (wdN q24_0 (by omega)) (wdN q34_0 (by omega)) (wdN q54_0 (by omega)) (wdN q64_0 (by omega)) (wdN q74_0 (by omega))⟩), rfl, rfl⟩
      · exact absurd c6 (by omega)
    · skip
      refine lv_aload_n Ex Eb dX8_isCommand_20 rfl (lv_at hl 0 rfl) ?_
      refine lo_ldcwS E hV 13 (by decide) rfl dX8_isCommand_21 ?_
      refine lo_callVE (q0 := 0) (rest := []) E hK hw hV (kX8_isWord l X kS d M T 13 (ht) (hT) (ha) (he) (hk) (by omega)) (cwV 1 E.2.2.2.2 gX8_isCommand_X8_isWord rfl rfl rfl (by decide +kernel) ⟨Nat.le_of_ble_eq_true rfl, Nat.le_of_ble_eq_true rfl⟩) rfl rfl [0, 1] rfl (by decide) hl.1 rfl rfl (Nat.le_of_ble_eq_true rfl) dX8_isCommand_24 ⟨Nat.le_of_ble_eq_true rfl, Nat.le_of_ble_eq_true rfl⟩ (fun v w1 H locs hq hw => ?_)
      obtain ⟨z7, q24_0, rfl, rfl⟩ := hq
      have hw : lo_Wd X ([oX8 (d 0) (M 0) (d 1) (d 2) (M 3) (d 3) (M 5) (d 4) (d 5) (d 6) (M 9) (d 7) (M 11) (M 12) (M 13) (M 14) (M 15) (M 16) (M 17) (M 18) (M 19) (M 20) (M 21) (M 22) (M 23) (M 24) (M 25) (M 26) (M 27) (M 28), arI X (d 6) 500 T]) A9 s9.heap H locs := hw
      refine W.eq (g2 := F0 m9 27 ls [.int (iI z7)]) rfl ?_
      refine lo_if_ne (tgt := 40) E dX8_isCommand_27 (by decide) (by omega) (fun c8 => ?_) (fun c8 => ?_)
      · skip
        refine lv_iconst (v := iI 1) Ex Eb dX8_isCommand_40 rfl ?_
        refine lv_goto (tgt := 45) Ex Eb dX8_isCommand_41 (by decide) ?_
        refine lv_istore_n (lv' := [(1, .int (iI 1)), (0, .ref (d 0))]) Ex Eb dX8_isCommand_45 rfl hl (by decide) rfl (fun ls hl => ?_)
        refine lv_iload_n Ex Eb dX8_isCommand_46 rfl (lv_at hl 0 rfl) ?_
        refine lo_if_ne (tgt := 80) E dX8_isCommand_47 (by decide) (by omega) (fun c10 => ?_) (fun c10 => ?_)
        · skip
          refine lv_iconst (v := iI 1) Ex Eb dX8_isCommand_80 rfl ?_
          refine lv_goto (tgt := 85) Ex Eb dX8_isCommand_81 (by decide) ?_
          exact lo_zret E hRt hLk hK hAe hw dX8_isCommand_85 rfl rfl ⟨1, (by first | exact Or.inl ⟨rfl, 11, by omega, by omega, wdY q4_0 (by omega)⟩ | exact Or.inl ⟨rfl, 12, by omega, by omega, wdY q14_0 (by omega)⟩ | exact Or.inl ⟨rfl, 13, by omega, by omega, wdY q24_0 (by omega)⟩ | exact Or.inl ⟨rfl, 14, by omega, by omega, wdY q34_0 (by omega)⟩ | exact Or.inl ⟨rfl, 15, by omega, by omega, wdY q54_0 (by omega)⟩ | exact Or.inl ⟨rfl, 16, by omega, by omega, wdY q64_0 (by omega)⟩ | exact Or.inl ⟨rfl, 17, by omega, by omega, wdY q74_0 (by omega)⟩ | exact Or.inr ⟨rfl, all7 (P := W8 T M) (wdN q4_0 (by omega)) (wdN q14_0 (by omega)) (wdN q24_0 (by omega)) (wdN q34_0 (by omega)) (wdN q54_0 (by omega)) (wdN q64_0 (by omega)) (wdN q74_0 (by omega))⟩), rfl, rfl⟩
        · exact absurd c10 (by omega)
      · skip
        refine lv_aload_n Ex Eb dX8_isCommand_30 rfl (lv_at hl 0 rfl) ?_
        refine lo_ldcwS E hV 14 (by decide) rfl dX8_isCommand_31 ?_
        refine lo_callVE (q0 := 0) (rest := []) E hK hw hV (kX8_isWord l X kS d M T 14 (ht) (hT) (ha) (he) (hk) (by omega)) (cwV 1 E.2.2.2.2 gX8_isCommand_X8_isWord rfl rfl rfl (by decide +kernel) ⟨Nat.le_of_ble_eq_true rfl, Nat.le_of_ble_eq_true rfl⟩) rfl rfl [0, 1] rfl (by decide) hl.1 rfl rfl (Nat.le_of_ble_eq_true rfl) dX8_isCommand_34 ⟨Nat.le_of_ble_eq_true rfl, Nat.le_of_ble_eq_true rfl⟩ (fun v w1 H locs hq hw => ?_)
        obtain ⟨z11, q34_0, rfl, rfl⟩ := hq
        have hw : lo_Wd X ([oX8 (d 0) (M 0) (d 1) (d 2) (M 3) (d 3) (M 5) (d 4) (d 5) (d 6) (M 9) (d 7) (M 11) (M 12) (M 13) (M 14) (M 15) (M 16) (M 17) (M 18) (M 19) (M 20) (M 21) (M 22) (M 23) (M 24) (M 25) (M 26) (M 27) (M 28), arI X (d 6) 500 T]) A9 s9.heap H locs := hw
        refine W.eq (g2 := F0 m9 37 ls [.int (iI z11)]) rfl ?_
        refine lo_if_eq (tgt := 44) E dX8_isCommand_37 (by decide) (by omega) (fun c12 => ?_) (fun c12 => ?_)
        · skip
          refine lv_iconst (v := iI 0) Ex Eb dX8_isCommand_44 rfl ?_
          refine lv_istore_n (lv' := [(1, .int (iI 0)), (0, .ref (d 0))]) Ex Eb dX8_isCommand_45 rfl hl (by decide) rfl (fun ls hl => ?_)
          refine lv_iload_n Ex Eb dX8_isCommand_46 rfl (lv_at hl 0 rfl) ?_
          refine lo_if_ne (tgt := 80) E dX8_isCommand_47 (by decide) (by omega) (fun c13 => ?_) (fun c13 => ?_)
          · exact absurd c13 (by omega)
          · skip
            refine lv_aload_n Ex Eb dX8_isCommand_50 rfl (lv_at hl 1 rfl) ?_
            refine lo_ldcwS E hV 15 (by decide) rfl dX8_isCommand_51 ?_
            refine lo_callVE (q0 := 0) (rest := []) E hK hw hV (kX8_isWord l X kS d M T 15 (ht) (hT) (ha) (he) (hk) (by omega)) (cwV 1 E.2.2.2.2 gX8_isCommand_X8_isWord rfl rfl rfl (by decide +kernel) ⟨Nat.le_of_ble_eq_true rfl, Nat.le_of_ble_eq_true rfl⟩) rfl rfl [0, 1] rfl (by decide) hl.1 rfl rfl (Nat.le_of_ble_eq_true rfl) dX8_isCommand_54 ⟨Nat.le_of_ble_eq_true rfl, Nat.le_of_ble_eq_true rfl⟩ (fun v w1 H locs hq hw => ?_)
            obtain ⟨z14, q54_0, rfl, rfl⟩ := hq
            have hw : lo_Wd X ([oX8 (d 0) (M 0) (d 1) (d 2) (M 3) (d 3) (M 5) (d 4) (d 5) (d 6) (M 9) (d 7) (M 11) (M 12) (M 13) (M 14) (M 15) (M 16) (M 17) (M 18) (M 19) (M 20) (M 21) (M 22) (M 23) (M 24) (M 25) (M 26) (M 27) (M 28), arI X (d 6) 500 T]) A9 s9.heap H locs := hw
            refine W.eq (g2 := F0 m9 57 ls [.int (iI z14)]) rfl ?_
            refine lo_if_ne (tgt := 80) E dX8_isCommand_57 (by decide) (by omega) (fun c15 => ?_) (fun c15 => ?_)
            · skip
              refine lv_iconst (v := iI 1) Ex Eb dX8_isCommand_80 rfl ?_
              refine lv_goto (tgt := 85) Ex Eb dX8_isCommand_81 (by decide) ?_
              exact lo_zret E hRt hLk hK hAe hw dX8_isCommand_85 rfl rfl ⟨1, (by first | exact Or.inl ⟨rfl, 11, by omega, by omega, wdY q4_0 (by omega)⟩ | exact Or.inl ⟨rfl, 12, by omega, by omega, wdY q14_0 (by omega)⟩ | exact Or.inl ⟨rfl, 13, by omega, by omega, wdY q24_0 (by omega)⟩ | exact Or.inl ⟨rfl, 14, by omega, by omega, wdY q34_0 (by omega)⟩ | exact Or.inl ⟨rfl, 15, by omega, by omega, wdY q54_0 (by omega)⟩ | exact Or.inl ⟨rfl, 16, by omega, by omega, wdY q64_0 (by omega)⟩ | exact Or.inl ⟨rfl, 17, by omega, by omega, wdY q74_0 (by omega)⟩ | exact Or.inr ⟨rfl, all7 (P := W8 T M) (wdN q4_0 (by omega)) (wdN q14_0 (by omega)) (wdN q24_0 (by omega)) (wdN q34_0 (by omega)) (wdN q54_0 (by omega)) (wdN q64_0 (by omega)) (wdN q74_0 (by omega))⟩), rfl, rfl⟩
            · skip
              refine lv_aload_n Ex Eb dX8_isCommand_60 rfl (lv_at hl 1 rfl) ?_
              refine lo_ldcwS E hV 16 (by decide) rfl dX8_isCommand_61 ?_
              refine lo_callVE (q0 := 0) (rest := []) E hK hw hV (kX8_isWord l X kS d M T 16 (ht) (hT) (ha) (he) (hk) (by omega)) (cwV 1 E.2.2.2.2 gX8_isCommand_X8_isWord rfl rfl rfl (by decide +kernel) ⟨Nat.le_of_ble_eq_true rfl, Nat.le_of_ble_eq_true rfl⟩) rfl rfl [0, 1] rfl (by decide) hl.1 rfl rfl (Nat.le_of_ble_eq_true rfl) dX8_isCommand_64 ⟨Nat.le_of_ble_eq_true rfl, Nat.le_of_ble_eq_true rfl⟩ (fun v w1 H locs hq hw => ?_)
              obtain ⟨z16, q64_0, rfl, rfl⟩ := hq
              have hw : lo_Wd X ([oX8 (d 0) (M 0) (d 1) (d 2) (M 3) (d 3) (M 5) (d 4) (d 5) (d 6) (M 9) (d 7) (M 11) (M 12) (M 13) (M 14) (M 15) (M 16) (M 17) (M 18) (M 19) (M 20) (M 21) (M 22) (M 23) (M 24) (M 25) (M 26) (M 27) (M 28), arI X (d 6) 500 T]) A9 s9.heap H locs := hw
              refine W.eq (g2 := F0 m9 67 ls [.int (iI z16)]) rfl ?_
              refine lo_if_ne (tgt := 80) E dX8_isCommand_67 (by decide) (by omega) (fun c17 => ?_) (fun c17 => ?_)
              · skip
                refine lv_iconst (v := iI 1) Ex Eb dX8_isCommand_80 rfl ?_
                refine lv_goto (tgt := 85) Ex Eb dX8_isCommand_81 (by decide) ?_
                exact lo_zret E hRt hLk hK hAe hw dX8_isCommand_85 rfl rfl ⟨1, (by first | exact Or.inl ⟨rfl, 11, by omega, by omega, wdY q4_0 (by omega)⟩ | exact Or.inl ⟨rfl, 12, by omega, by omega, wdY q14_0 (by omega)⟩ | exact Or.inl ⟨rfl, 13, by omega, by omega, wdY q24_0 (by omega)⟩ | exact Or.inl ⟨rfl, 14, by omega, by omega, wdY q34_0 (by omega)⟩ | exact Or.inl ⟨rfl, 15, by omega, by omega, wdY q54_0 (by omega)⟩ | exact Or.inl ⟨rfl, 16, by omega, by omega, wdY q64_0 (by omega)⟩ | exact Or.inl ⟨rfl, 17, by omega, by omega, wdY q74_0 (by omega)⟩ | exact Or.inr ⟨rfl, all7 (P := W8 T M) (wdN q4_0 (by omega)) (wdN q14_0 (by omega)) (wdN q24_0 (by omega)) (wdN q34_0 (by omega)) (wdN q54_0 (by omega)) (wdN q64_0 (by omega)) (wdN q74_0 (by omega))⟩), rfl, rfl⟩
              · skip
                refine lv_aload_n Ex Eb dX8_isCommand_70 rfl (lv_at hl 1 rfl) ?_
                refine lo_ldcwS E hV 17 (by decide) rfl dX8_isCommand_71 ?_
                refine lo_callVE (q0 := 0) (rest := []) E hK hw hV (kX8_isWord l X kS d M T 17 (ht) (hT) (ha) (he) (hk) (by omega)) (cwV 1 E.2.2.2.2 gX8_isCommand_X8_isWord rfl rfl rfl (by decide +kernel) ⟨Nat.le_of_ble_eq_true rfl, Nat.le_of_ble_eq_true rfl⟩) rfl rfl [0, 1] rfl (by decide) hl.1 rfl rfl (Nat.le_of_ble_eq_true rfl) dX8_isCommand_74 ⟨Nat.le_of_ble_eq_true rfl, Nat.le_of_ble_eq_true rfl⟩ (fun v w1 H locs hq hw => ?_)
                obtain ⟨z18, q74_0, rfl, rfl⟩ := hq
                have hw : lo_Wd X ([oX8 (d 0) (M 0) (d 1) (d 2) (M 3) (d 3) (M 5) (d 4) (d 5) (d 6) (M 9) (d 7) (M 11) (M 12) (M 13) (M 14) (M 15) (M 16) (M 17) (M 18) (M 19) (M 20) (M 21) (M 22) (M 23) (M 24) (M 25) (M 26) (M 27) (M 28), arI X (d 6) 500 T]) A9 s9.heap H locs := hw
                refine W.eq (g2 := F0 m9 77 ls [.int (iI z18)]) rfl ?_
                refine lo_if_eq (tgt := 84) E dX8_isCommand_77 (by decide) (by omega) (fun c19 => ?_) (fun c19 => ?_)
                · skip
                  refine lv_iconst (v := iI 0) Ex Eb dX8_isCommand_84 rfl ?_
                  exact lo_zret E hRt hLk hK hAe hw dX8_isCommand_85 rfl rfl ⟨0, (by first | exact Or.inl ⟨rfl, 11, by omega, by omega, wdY q4_0 (by omega)⟩ | exact Or.inl ⟨rfl, 12, by omega, by omega, wdY q14_0 (by omega)⟩ | exact Or.inl ⟨rfl, 13, by omega, by omega, wdY q24_0 (by omega)⟩ | exact Or.inl ⟨rfl, 14, by omega, by omega, wdY q34_0 (by omega)⟩ | exact Or.inl ⟨rfl, 15, by omega, by omega, wdY q54_0 (by omega)⟩ | exact Or.inl ⟨rfl, 16, by omega, by omega, wdY q64_0 (by omega)⟩ | exact Or.inl ⟨rfl, 17, by omega, by omega, wdY q74_0 (by omega)⟩ | exact Or.inr ⟨rfl, all7 (P := W8 T M) (wdN q4_0 (by omega)) (wdN q14_0 (by omega)) (wdN q24_0 (by omega)) (wdN q34_0 (by omega)) (wdN q54_0 (by omega)) (wdN q64_0 (by omega)) (wdN q74_0 (by omega))⟩), rfl, rfl⟩
                · skip
                  refine lv_iconst (v := iI 1) Ex Eb dX8_isCommand_80 rfl ?_
                  refine lv_goto (tgt := 85) Ex Eb dX8_isCommand_81 (by decide) ?_
                  exact lo_zret E hRt hLk hK hAe hw dX8_isCommand_85 rfl rfl ⟨1, (by first | exact Or.inl ⟨rfl, 11, by omega, by omega, wdY q4_0 (by omega)⟩ | exact Or.inl ⟨rfl, 12, by omega, by omega, wdY q14_0 (by omega)⟩ | exact Or.inl ⟨rfl, 13, by omega, by omega, wdY q24_0 (by omega)⟩ | exact Or.inl ⟨rfl, 14, by omega, by omega, wdY q34_0 (by omega)⟩ | exact Or.inl ⟨rfl, 15, by omega, by omega, wdY q54_0 (by omega)⟩ | exact Or.inl ⟨rfl, 16, by omega, by omega, wdY q64_0 (by omega)⟩ | exact Or.inl ⟨rfl, 17, by omega, by omega, wdY q74_0 (by omega)⟩ | exact Or.inr ⟨rfl, all7 (P := W8 T M) (wdN q4_0 (by omega)) (wdN q14_0 (by omega)) (wdN q24_0 (by omega)) (wdN q34_0 (by omega)) (wdN q54_0 (by omega)) (wdN q64_0 (by omega)) (wdN q74_0 (by omega))⟩), rfl, rfl⟩
        · skip
          refine lv_iconst (v := iI 1) Ex Eb dX8_isCommand_40 rfl ?_
          refine lv_goto (tgt := 45) Ex Eb dX8_isCommand_41 (by decide) ?_
          refine lv_istore_n (lv' := [(1, .int (iI 1)), (0, .ref (d 0))]) Ex Eb dX8_isCommand_45 rfl hl (by decide) rfl (fun ls hl => ?_)
          refine lv_iload_n Ex Eb dX8_isCommand_46 rfl (lv_at hl 0 rfl) ?_
          refine lo_if_ne (tgt := 80) E dX8_isCommand_47 (by decide) (by omega) (fun c20 => ?_) (fun c20 => ?_)
          · skip
            refine lv_iconst (v := iI 1) Ex Eb dX8_isCommand_80 rfl ?_
            refine lv_goto (tgt := 85) Ex Eb dX8_isCommand_81 (by decide) ?_
            exact lo_zret E hRt hLk hK hAe hw dX8_isCommand_85 rfl rfl ⟨1, (by first | exact Or.inl ⟨rfl, 11, by omega, by omega, wdY q4_0 (by omega)⟩ | exact Or.inl ⟨rfl, 12, by omega, by omega, wdY q14_0 (by omega)⟩ | exact Or.inl ⟨rfl, 13, by omega, by omega, wdY q24_0 (by omega)⟩ | exact Or.inl ⟨rfl, 14, by omega, by omega, wdY q34_0 (by omega)⟩ | exact Or.inl ⟨rfl, 15, by omega, by omega, wdY q54_0 (by omega)⟩ | exact Or.inl ⟨rfl, 16, by omega, by omega, wdY q64_0 (by omega)⟩ | exact Or.inl ⟨rfl, 17, by omega, by omega, wdY q74_0 (by omega)⟩ | exact Or.inr ⟨rfl, all7 (P := W8 T M) (wdN q4_0 (by omega)) (wdN q14_0 (by omega)) (wdN q24_0 (by omega)) (wdN q34_0 (by omega)) (wdN q54_0 (by omega)) (wdN q64_0 (by omega)) (wdN q74_0 (by omega))⟩), rfl, rfl⟩
          · exact absurd c20 (by omega)
