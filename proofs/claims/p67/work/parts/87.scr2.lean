set_option maxHeartbeats 4000000 in
set_option maxRecDepth 100000 in
theorem kX5_commandOfWord (l : Launch) (X : KX) (kS : Nat → Nat) (xc tg a1 a2 a3 : Nat) (en ex dp s1 s2 s3 kt ek eo : Int) (xt tt : Nat) (tn tp ts tk tv : Int) (T : Nat → Int) (ht : 0 ≤ tn ∧ tn ≤ 500) (hT : ∀ k : Nat, 0 ≤ T k ∧ T k ≤ 255) (hp : 0 ≤ ts ∧ ts ≤ tp ∧ tp ≤ tn) (hk : 0 ≤ tk ∧ tk ≤ 4) (hv : 0 ≤ tv ∧ tv ≤ 9999999) (he : 0 ≤ ek ∧ ek ≤ 9) : CE l X kS yX5_commandOfWord wsX5_commandOfWord ({ frames := 5, cells := 0, slots := 0, locals := 228 }) [.ref xc] ([oX5 xc xt tg en ex dp a1 a2 a3 s1 s2 s3 kt ek eo, oX6 xt tt tn tp ts tk tv, arB X tt 500 (sB T)]) (fun v9 w9 => ∃ z : Int, ((1 ≤ z ∧ z ≤ 8 ∧ WD T tk ts tp z.toNat) ∨ (z = 0 ∧ ∀ i, 1 ≤ i → i ≤ 8 → ¬ WD T tk ts tp i)) ∧ v9 = some (.int (iI z)) ∧ w9 = [oX5 xc xt tg en ex dp a1 a2 a3 s1 s2 s3 kt ek eo, oX6 xt tt tn tp ts tk tv, arB X tt 500 (sB T)]) 0 0 := by
  refine lo_enterE (cc := cX5_commandOfWord) (maxL := 1) (ret := (some .int)) (lv := [(0, .ref xc)]) (by decide) rfl rfl (Nat.le_of_ble_eq_true rfl) ?_
  intro p9 e9 s9 m9 bl9 me9 c9 A9 ls hAe E hRt hLk hK hl hw hV
  have Ex := E.1
  have Eb := E.2.1
  have huRX5 : ∀ w ∈ u_ws RX5 TX5 14, w ∈ wsX5_commandOfWord := by decide +kernel
  have hf55 : (Cond.fieldLink RX5 55 "LoanSchedule$Script" "tokens" "LLoanSchedule$Tokens;").before _ s9 = true := E.2.2.2.2 _ (List.mem_of_getElem? (i := 1) rfl)
  refine lv_aload_n Ex Eb dX5_commandOfWord_0 rfl (lv_at hl 0 rfl) ?_
  refine lo_get E hK hw huRX5 0 hf55 rfl 0 rfl rfl (by decide) (v := .ref xt) rfl dX5_commandOfWord_1 ?_
  refine lo_ldcS E hV 1 (by decide) rfl dX5_commandOfWord_4 ?_
  refine lo_callVE (q0 := 1) (rest := []) E hK hw hV (kX6_isWord l X kS xt tt tn tp ts tk tv T 1 (ht) (hT) (hp) (hk) (by omega)) (cwV 1 E.2.2.2.2 gX5_commandOfWord_X6_isWord rfl rfl rfl (by decide +kernel) ⟨Nat.le_of_ble_eq_true rfl, Nat.le_of_ble_eq_true rfl⟩) rfl rfl [1, 2] rfl (by decide) hl.1 rfl rfl (Nat.le_of_ble_eq_true rfl) dX5_commandOfWord_6 ⟨Nat.le_of_ble_eq_true rfl, Nat.le_of_ble_eq_true rfl⟩ (fun v w1 H locs hq hw => ?_)
  obtain ⟨z1, q6_0, rfl, rfl⟩ := hq
  have hw : lo_Wd X ([oX5 xc xt tg en ex dp a1 a2 a3 s1 s2 s3 kt ek eo, oX6 xt tt tn tp ts tk tv, arB X tt 500 (sB T)]) A9 s9.heap H locs := hw
  refine W.eq (g2 := F0 m9 9 ls [.int (iI z1)]) rfl ?_
  refine lo_if_eq (tgt := 14) E dX5_commandOfWord_9 (by decide) (by omega) (fun c2 => ?_) (fun c2 => ?_)
  · skip
    refine lv_aload_n Ex Eb dX5_commandOfWord_14 rfl (lv_at hl 0 rfl) ?_
    refine lo_get E hK hw huRX5 0 hf55 rfl 0 rfl rfl (by decide) (v := .ref xt) rfl dX5_commandOfWord_15 ?_
    refine lo_ldcS E hV 2 (by decide) rfl dX5_commandOfWord_18 ?_
    refine lo_callVE (q0 := 1) (rest := []) E hK hw hV (kX6_isWord l X kS xt tt tn tp ts tk tv T 2 (ht) (hT) (hp) (hk) (by omega)) (cwV 1 E.2.2.2.2 gX5_commandOfWord_X6_isWord rfl rfl rfl (by decide +kernel) ⟨Nat.le_of_ble_eq_true rfl, Nat.le_of_ble_eq_true rfl⟩) rfl rfl [1, 2] rfl (by decide) hl.1 rfl rfl (Nat.le_of_ble_eq_true rfl) dX5_commandOfWord_20 ⟨Nat.le_of_ble_eq_true rfl, Nat.le_of_ble_eq_true rfl⟩ (fun v w1 H locs hq hw => ?_)
    obtain ⟨z3, q20_0, rfl, rfl⟩ := hq
    have hw : lo_Wd X ([oX5 xc xt tg en ex dp a1 a2 a3 s1 s2 s3 kt ek eo, oX6 xt tt tn tp ts tk tv, arB X tt 500 (sB T)]) A9 s9.heap H locs := hw
    refine W.eq (g2 := F0 m9 23 ls [.int (iI z3)]) rfl ?_
    refine lo_if_eq (tgt := 28) E dX5_commandOfWord_23 (by decide) (by omega) (fun c4 => ?_) (fun c4 => ?_)
    · skip
      refine lv_aload_n Ex Eb dX5_commandOfWord_28 rfl (lv_at hl 0 rfl) ?_
      refine lo_get E hK hw huRX5 0 hf55 rfl 0 rfl rfl (by decide) (v := .ref xt) rfl dX5_commandOfWord_29 ?_
      refine lo_ldcS E hV 3 (by decide) rfl dX5_commandOfWord_32 ?_
      refine lo_callVE (q0 := 1) (rest := []) E hK hw hV (kX6_isWord l X kS xt tt tn tp ts tk tv T 3 (ht) (hT) (hp) (hk) (by omega)) (cwV 1 E.2.2.2.2 gX5_commandOfWord_X6_isWord rfl rfl rfl (by decide +kernel) ⟨Nat.le_of_ble_eq_true rfl, Nat.le_of_ble_eq_true rfl⟩) rfl rfl [1, 2] rfl (by decide) hl.1 rfl rfl (Nat.le_of_ble_eq_true rfl) dX5_commandOfWord_34 ⟨Nat.le_of_ble_eq_true rfl, Nat.le_of_ble_eq_true rfl⟩ (fun v w1 H locs hq hw => ?_)
      obtain ⟨z5, q34_0, rfl, rfl⟩ := hq
      have hw : lo_Wd X ([oX5 xc xt tg en ex dp a1 a2 a3 s1 s2 s3 kt ek eo, oX6 xt tt tn tp ts tk tv, arB X tt 500 (sB T)]) A9 s9.heap H locs := hw
      refine W.eq (g2 := F0 m9 37 ls [.int (iI z5)]) rfl ?_
      refine lo_if_eq (tgt := 42) E dX5_commandOfWord_37 (by decide) (by omega) (fun c6 => ?_) (fun c6 => ?_)
      · skip
        refine lv_aload_n Ex Eb dX5_commandOfWord_42 rfl (lv_at hl 0 rfl) ?_
        refine lo_get E hK hw huRX5 0 hf55 rfl 0 rfl rfl (by decide) (v := .ref xt) rfl dX5_commandOfWord_43 ?_
        refine lo_ldcS E hV 4 (by decide) rfl dX5_commandOfWord_46 ?_
        refine lo_callVE (q0 := 1) (rest := []) E hK hw hV (kX6_isWord l X kS xt tt tn tp ts tk tv T 4 (ht) (hT) (hp) (hk) (by omega)) (cwV 1 E.2.2.2.2 gX5_commandOfWord_X6_isWord rfl rfl rfl (by decide +kernel) ⟨Nat.le_of_ble_eq_true rfl, Nat.le_of_ble_eq_true rfl⟩) rfl rfl [1, 2] rfl (by decide) hl.1 rfl rfl (Nat.le_of_ble_eq_true rfl) dX5_commandOfWord_48 ⟨Nat.le_of_ble_eq_true rfl, Nat.le_of_ble_eq_true rfl⟩ (fun v w1 H locs hq hw => ?_)
        obtain ⟨z7, q48_0, rfl, rfl⟩ := hq
        have hw : lo_Wd X ([oX5 xc xt tg en ex dp a1 a2 a3 s1 s2 s3 kt ek eo, oX6 xt tt tn tp ts tk tv, arB X tt 500 (sB T)]) A9 s9.heap H locs := hw
        refine W.eq (g2 := F0 m9 51 ls [.int (iI z7)]) rfl ?_
        refine lo_if_eq (tgt := 56) E dX5_commandOfWord_51 (by decide) (by omega) (fun c8 => ?_) (fun c8 => ?_)
        · skip
          refine lv_aload_n Ex Eb dX5_commandOfWord_56 rfl (lv_at hl 0 rfl) ?_
          refine lo_get E hK hw huRX5 0 hf55 rfl 0 rfl rfl (by decide) (v := .ref xt) rfl dX5_commandOfWord_57 ?_
          refine lo_ldcS E hV 5 (by decide) rfl dX5_commandOfWord_60 ?_
          refine lo_callVE (q0 := 1) (rest := []) E hK hw hV (kX6_isWord l X kS xt tt tn tp ts tk tv T 5 (ht) (hT) (hp) (hk) (by omega)) (cwV 1 E.2.2.2.2 gX5_commandOfWord_X6_isWord rfl rfl rfl (by decide +kernel) ⟨Nat.le_of_ble_eq_true rfl, Nat.le_of_ble_eq_true rfl⟩) rfl rfl [1, 2] rfl (by decide) hl.1 rfl rfl (Nat.le_of_ble_eq_true rfl) dX5_commandOfWord_62 ⟨Nat.le_of_ble_eq_true rfl, Nat.le_of_ble_eq_true rfl⟩ (fun v w1 H locs hq hw => ?_)
          obtain ⟨z9, q62_0, rfl, rfl⟩ := hq
          have hw : lo_Wd X ([oX5 xc xt tg en ex dp a1 a2 a3 s1 s2 s3 kt ek eo, oX6 xt tt tn tp ts tk tv, arB X tt 500 (sB T)]) A9 s9.heap H locs := hw
          refine W.eq (g2 := F0 m9 65 ls [.int (iI z9)]) rfl ?_
          refine lo_if_eq (tgt := 70) E dX5_commandOfWord_65 (by decide) (by omega) (fun c10 => ?_) (fun c10 => ?_)
          · skip
            refine lv_aload_n Ex Eb dX5_commandOfWord_70 rfl (lv_at hl 0 rfl) ?_
            refine lo_get E hK hw huRX5 0 hf55 rfl 0 rfl rfl (by decide) (v := .ref xt) rfl dX5_commandOfWord_71 ?_
            refine lo_ldcS E hV 6 (by decide) rfl dX5_commandOfWord_74 ?_
            refine lo_callVE (q0 := 1) (rest := []) E hK hw hV (kX6_isWord l X kS xt tt tn tp ts tk tv T 6 (ht) (hT) (hp) (hk) (by omega)) (cwV 1 E.2.2.2.2 gX5_commandOfWord_X6_isWord rfl rfl rfl (by decide +kernel) ⟨Nat.le_of_ble_eq_true rfl, Nat.le_of_ble_eq_true rfl⟩) rfl rfl [1, 2] rfl (by decide) hl.1 rfl rfl (Nat.le_of_ble_eq_true rfl) dX5_commandOfWord_76 ⟨Nat.le_of_ble_eq_true rfl, Nat.le_of_ble_eq_true rfl⟩ (fun v w1 H locs hq hw => ?_)
            obtain ⟨z11, q76_0, rfl, rfl⟩ := hq
            have hw : lo_Wd X ([oX5 xc xt tg en ex dp a1 a2 a3 s1 s2 s3 kt ek eo, oX6 xt tt tn tp ts tk tv, arB X tt 500 (sB T)]) A9 s9.heap H locs := hw
            refine W.eq (g2 := F0 m9 79 ls [.int (iI z11)]) rfl ?_
            refine lo_if_eq (tgt := 85) E dX5_commandOfWord_79 (by decide) (by omega) (fun c12 => ?_) (fun c12 => ?_)
            · skip
              refine lv_aload_n Ex Eb dX5_commandOfWord_85 rfl (lv_at hl 0 rfl) ?_
              refine lo_get E hK hw huRX5 0 hf55 rfl 0 rfl rfl (by decide) (v := .ref xt) rfl dX5_commandOfWord_86 ?_
              refine lo_ldcS E hV 7 (by decide) rfl dX5_commandOfWord_89 ?_
              refine lo_callVE (q0 := 1) (rest := []) E hK hw hV (kX6_isWord l X kS xt tt tn tp ts tk tv T 7 (ht) (hT) (hp) (hk) (by omega)) (cwV 1 E.2.2.2.2 gX5_commandOfWord_X6_isWord rfl rfl rfl (by decide +kernel) ⟨Nat.le_of_ble_eq_true rfl, Nat.le_of_ble_eq_true rfl⟩) rfl rfl [1, 2] rfl (by decide) hl.1 rfl rfl (Nat.le_of_ble_eq_true rfl) dX5_commandOfWord_91 ⟨Nat.le_of_ble_eq_true rfl, Nat.le_of_ble_eq_true rfl⟩ (fun v w1 H locs hq hw => ?_)
              obtain ⟨z13, q91_0, rfl, rfl⟩ := hq
              have hw : lo_Wd X ([oX5 xc xt tg en ex dp a1 a2 a3 s1 s2 s3 kt ek eo, oX6 xt tt tn tp ts tk tv, arB X tt 500 (sB T)]) A9 s9.heap H locs := hw
              refine W.eq (g2 := F0 m9 94 ls [.int (iI z13)]) rfl ?_
              refine lo_if_eq (tgt := 100) E dX5_commandOfWord_94 (by decide) (by omega) (fun c14 => ?_) (fun c14 => ?_)
              · skip
                refine lv_aload_n Ex Eb dX5_commandOfWord_100 rfl (lv_at hl 0 rfl) ?_
                refine lo_get E hK hw huRX5 0 hf55 rfl 0 rfl rfl (by decide) (v := .ref xt) rfl dX5_commandOfWord_101 ?_
                refine lo_ldcS E hV 8 (by decide) rfl dX5_commandOfWord_104 ?_
                refine lo_callVE (q0 := 1) (rest := []) E hK hw hV (kX6_isWord l X kS xt tt tn tp ts tk tv T 8 (ht) (hT) (hp) (hk) (by omega)) (cwV 1 E.2.2.2.2 gX5_commandOfWord_X6_isWord rfl rfl rfl (by decide +kernel) ⟨Nat.le_of_ble_eq_true rfl, Nat.le_of_ble_eq_true rfl⟩) rfl rfl [1, 2] rfl (by decide) hl.1 rfl rfl (Nat.le_of_ble_eq_true rfl) dX5_commandOfWord_106 ⟨Nat.le_of_ble_eq_true rfl, Nat.le_of_ble_eq_true rfl⟩ (fun v w1 H locs hq hw => ?_)
                obtain ⟨z15, q106_0, rfl, rfl⟩ := hq
                have hw : lo_Wd X ([oX5 xc xt tg en ex dp a1 a2 a3 s1 s2 s3 kt ek eo, oX6 xt tt tn tp ts tk tv, arB X tt 500 (sB T)]) A9 s9.heap H locs := hw
                refine W.eq (g2 := F0 m9 109 ls [.int (iI z15)]) rfl ?_
                refine lo_if_eq (tgt := 117) E dX5_commandOfWord_109 (by decide) (by omega) (fun c16 => ?_) (fun c16 => ?_)
                · skip
                  refine lv_iconst (v := iI 0) Ex Eb dX5_commandOfWord_117 rfl ?_
                  exact lo_iret E hRt hLk hK hAe hw dX5_commandOfWord_118 rfl ⟨0, (by first | exact Or.inl ⟨by omega, by omega, wdY q106_0 (by omega)⟩ | exact Or.inr ⟨by omega, all8 (P := WD T tk ts tp) (wdN q6_0 (by omega)) (wdN q20_0 (by omega)) (wdN q34_0 (by omega)) (wdN q48_0 (by omega)) (wdN q62_0 (by omega)) (wdN q76_0 (by omega)) (wdN q91_0 (by omega)) (wdN q106_0 (by omega))⟩), rfl, rfl⟩
                · skip
                  refine lv_bipush (v := iI 8) Ex Eb dX5_commandOfWord_112 rfl ?_
                  refine lv_goto (tgt := 118) Ex Eb dX5_commandOfWord_114 (by decide) ?_
                  exact lo_iret E hRt hLk hK hAe hw dX5_commandOfWord_118 rfl ⟨8, (by first | exact Or.inl ⟨by omega, by omega, wdY q106_0 (by omega)⟩ | exact Or.inr ⟨by omega, all8 (P := WD T tk ts tp) (wdN q6_0 (by omega)) (wdN q20_0 (by omega)) (wdN q34_0 (by omega)) (wdN q48_0 (by omega)) (wdN q62_0 (by omega)) (wdN q76_0 (by omega)) (wdN q91_0 (by omega)) (wdN q106_0 (by omega))⟩), rfl, rfl⟩
              · skip
                refine lv_bipush (v := iI 7) Ex Eb dX5_commandOfWord_97 rfl ?_
                exact lo_iret E hRt hLk hK hAe hw dX5_commandOfWord_99 rfl ⟨7, (Or.inl ⟨by omega, by omega, wdY q91_0 (by omega)⟩), rfl, rfl⟩
            · skip
              refine lv_bipush (v := iI 6) Ex Eb dX5_commandOfWord_82 rfl ?_
              exact lo_iret E hRt hLk hK hAe hw dX5_commandOfWord_84 rfl ⟨6, (Or.inl ⟨by omega, by omega, wdY q76_0 (by omega)⟩), rfl, rfl⟩
          · skip
            refine lv_iconst (v := iI 5) Ex Eb dX5_commandOfWord_68 rfl ?_
            exact lo_iret E hRt hLk hK hAe hw dX5_commandOfWord_69 rfl ⟨5, (Or.inl ⟨by omega, by omega, wdY q62_0 (by omega)⟩), rfl, rfl⟩
        · skip
          refine lv_iconst (v := iI 4) Ex Eb dX5_commandOfWord_54 rfl ?_
          exact lo_iret E hRt hLk hK hAe hw dX5_commandOfWord_55 rfl ⟨4, (Or.inl ⟨by omega, by omega, wdY q48_0 (by omega)⟩), rfl, rfl⟩
      · skip
        refine lv_iconst (v := iI 3) Ex Eb dX5_commandOfWord_40 rfl ?_
        exact lo_iret E hRt hLk hK hAe hw dX5_commandOfWord_41 rfl ⟨3, (Or.inl ⟨by omega, by omega, wdY q34_0 (by omega)⟩), rfl, rfl⟩
    · skip
      refine lv_iconst (v := iI 2) Ex Eb dX5_commandOfWord_26 rfl ?_
      exact lo_iret E hRt hLk hK hAe hw dX5_commandOfWord_27 rfl ⟨2, (Or.inl ⟨by omega, by omega, wdY q20_0 (by omega)⟩), rfl, rfl⟩
  · skip
    refine lv_iconst (v := iI 1) Ex Eb dX5_commandOfWord_12 rfl ?_
    exact lo_iret E hRt hLk hK hAe hw dX5_commandOfWord_13 rfl ⟨1, (Or.inl ⟨by omega, by omega, wdY q6_0 (by omega)⟩), rfl, rfl⟩
