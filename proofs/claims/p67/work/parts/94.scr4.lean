set_option maxHeartbeats 4000000 in
set_option maxRecDepth 100000 in
theorem kX5_readKeep (l : Launch) (X : KX) (kS : Nat → Nat) (xc tg a1 a2 a3 : Nat) (en ex dp s1 s2 s3 kt ek eo : Int) (xt tt : Nat) (tn tp ts tk tv : Int) (T : Nat → Int) (ht : 0 ≤ tn ∧ tn ≤ 500) (hT : ∀ k : Nat, 0 ≤ T k ∧ T k ≤ 255) (hp : 0 ≤ ts ∧ ts ≤ tp ∧ tp ≤ tn) (hk : 0 ≤ tk ∧ tk ≤ 4) (hv : 0 ≤ tv ∧ tv ≤ 9999999) (he : 0 ≤ ek ∧ ek ≤ 9) : CE l X kS yX5_readKeep wsX5_readKeep ({ frames := 5, cells := 0, slots := 0, locals := 228 }) [.ref xc] ([oX5 xc xt tg en ex dp a1 a2 a3 s1 s2 s3 kt ek eo, oX6 xt tt tn tp ts tk tv, arB X tt 500 (sB T)]) (fun v9 w9 => ∃ na : Int, ∃ nb : Int, ∃ nk : Int, ∃ ng : Int, ∃ ke : Int, ∃ ko : Int, ∃ kq : Int, ((ek ≠ 0 ∧ kq = kt ∧ na = tp ∧ nb = ts ∧ nk = tk ∧ ng = tv ∧ ke = ek ∧ ko = eo) ∨ (ek = 0 ∧ ∃ a b k g : Int, SCA T tn tp ts tk tv a b k g ek ∧ ((WD T k b a 9 ∧ kq = 1 ∧ SIGS T tn a b k g ek eo na nb nk ng ke ko 59) ∨ (¬ WD T k b a 9 ∧ kq = 0 ∧ na = a ∧ nb = b ∧ nk = k ∧ ng = g ∧ (((nk = 3 ∧ nb < tn ∧ T nb.toNat = 59) ∧ ke = ek ∧ ko = eo) ∨ (¬ (nk = 3 ∧ nb < tn ∧ T nb.toNat = 59) ∧ ke = 1 ∧ ko = nb)))))) ∧ ((0 ≤ nb ∧ nb ≤ na ∧ na ≤ tn) ∧ (0 ≤ nk ∧ nk ≤ 4) ∧ (0 ≤ ng ∧ ng ≤ 9999999) ∧ 0 ≤ ke ∧ ke ≤ 9) ∧ v9 = none ∧ w9 = [oX5 xc xt tg en ex dp a1 a2 a3 s1 s2 s3 kq ke ko, oX6 xt tt tn na nb nk ng, arB X tt 500 (sB T)]) 0 0 := by
  refine lo_enterE (cc := cX5_readKeep) (maxL := 1) (ret := none) (lv := [(0, .ref xc)]) (by decide) rfl rfl (Nat.le_of_ble_eq_true rfl) ?_
  intro p9 e9 s9 m9 bl9 me9 c9 A9 ls hAe E hRt hLk hK hl hw hV
  have Ex := E.1
  have Eb := E.2.1
  have huRX5 : ∀ w ∈ u_ws RX5 TX5 14, w ∈ wsX5_readKeep := by decide +kernel
  have hf44 : (Cond.fieldLink RX5 44 "LoanSchedule$Script" "errorKind" "I").before _ s9 = true := E.2.2.2.2 _ (List.mem_of_getElem? (i := 1) rfl)
  have hf55 : (Cond.fieldLink RX5 55 "LoanSchedule$Script" "tokens" "LLoanSchedule$Tokens;").before _ s9 = true := E.2.2.2.2 _ (List.mem_of_getElem? (i := 2) rfl)
  have hf41 : (Cond.fieldLink RX5 41 "LoanSchedule$Script" "keepTerm" "Z").before _ s9 = true := E.2.2.2.2 _ (List.mem_of_getElem? (i := 3) rfl)
  refine lv_aload_n Ex Eb dX5_readKeep_0 rfl (lv_at hl 0 rfl) ?_
  refine lo_get E hK hw huRX5 12 hf44 rfl 0 rfl rfl (by decide) (v := .int (iI ek)) rfl dX5_readKeep_1 ?_
  refine lo_if_eq (tgt := 8) E dX5_readKeep_4 (by decide) (by omega) (fun c1 => ?_) (fun c1 => ?_)
  · skip
    refine lv_aload_n Ex Eb dX5_readKeep_8 rfl (lv_at hl 0 rfl) ?_
    refine lo_get E hK hw huRX5 0 hf55 rfl 0 rfl rfl (by decide) (v := .ref xt) rfl dX5_readKeep_9 ?_
    refine lo_callV (q0 := 1) (rest := []) E hK hw (kX6_advance l X xt tt tn tp ts tk tv T (ht) (hT) (by omega) (hv)) (cwV 0 E.2.2.2.2 gX5_readKeep_X6_advance rfl rfl rfl (by decide +kernel) ⟨Nat.le_of_ble_eq_true rfl, Nat.le_of_ble_eq_true rfl⟩) rfl rfl [1, 2] rfl (by decide) hl.1 rfl rfl (Nat.le_of_ble_eq_true rfl) dX5_readKeep_12 ⟨Nat.le_of_ble_eq_true rfl, Nat.le_of_ble_eq_true rfl⟩ (fun v w1 H locs hq hw => ?_)
    obtain ⟨na2, nk3, ng4, q12_0, q12_1, rfl, rfl⟩ := hq
    have hw : lo_Wd X ([oX5 xc xt tg en ex dp a1 a2 a3 s1 s2 s3 kt ek eo, oX6 xt tt tn na2 (spE pSp T tn tp) nk3 ng4, arB X tt 500 (sB T)]) A9 s9.heap H locs := hw
    refine W.eq (g2 := F0 m9 15 ls []) rfl ?_
    have hnk := SCK_k q12_0
    have hsr := spE_r pSp (T := T) (n := tn) (x := tp) (by omega)
    refine lv_aload_n Ex Eb dX5_readKeep_15 rfl (lv_at hl 0 rfl) ?_
    refine lv_aload_n Ex Eb dX5_readKeep_16 rfl (lv_at hl 0 rfl) ?_
    refine lo_get E hK hw huRX5 0 hf55 rfl 0 rfl rfl (by decide) (v := .ref xt) rfl dX5_readKeep_17 ?_
    refine lo_ldcS E hV 9 (by decide) rfl dX5_readKeep_20 ?_
    refine lo_callVE (q0 := 1) (rest := [.ref xc]) E hK hw hV (kX6_isWord l X kS xt tt tn na2 (spE pSp T tn tp) nk3 ng4 T 9 (ht) (hT) (by omega) (hnk) (by omega)) (cwV 1 E.2.2.2.2 gX5_readKeep_X6_isWord rfl rfl rfl (by decide +kernel) ⟨Nat.le_of_ble_eq_true rfl, Nat.le_of_ble_eq_true rfl⟩) rfl rfl [1, 2] rfl (by decide) hl.1 rfl rfl (Nat.le_of_ble_eq_true rfl) dX5_readKeep_22 ⟨Nat.le_of_ble_eq_true rfl, Nat.le_of_ble_eq_true rfl⟩ (fun v w1 H locs hq hw => ?_)
    obtain ⟨z5, q22_0, rfl, rfl⟩ := hq
    have hw : lo_Wd X ([oX5 xc xt tg en ex dp a1 a2 a3 s1 s2 s3 kt ek eo, oX6 xt tt tn na2 (spE pSp T tn tp) nk3 ng4, arB X tt 500 (sB T)]) A9 s9.heap H locs := hw
    refine W.eq (g2 := F0 m9 25 ls [.int (iI z5), .ref xc]) rfl ?_
    refine lo_put E hK hw huRX5 tyX5 tyX5_ok nmX5 11 hf41 rfl 0 rfl rfl (by decide) rfl rfl (nar_b (by omega)) (fit_b (by omega)) (Nat.le_of_ble_eq_true rfl) (ws' := [oX5 xc xt tg en ex dp a1 a2 a3 s1 s2 s3 z5 ek eo, oX6 xt tt tn na2 (spE pSp T tn tp) nk3 ng4, arB X tt 500 (sB T)]) rfl dX5_readKeep_25 (fun H locs hw => ?_)
    refine lv_aload_n Ex Eb dX5_readKeep_28 rfl (lv_at hl 0 rfl) ?_
    refine lo_get E hK hw huRX5 11 hf41 rfl 0 rfl rfl (by decide) (v := .int (iI z5)) rfl dX5_readKeep_29 ?_
    refine lo_if_eq (tgt := 44) E dX5_readKeep_32 (by decide) (by omega) (fun c6 => ?_) (fun c6 => ?_)
    · skip
      refine lv_aload_n Ex Eb dX5_readKeep_44 rfl (lv_at hl 0 rfl) ?_
      refine lo_get E hK hw huRX5 0 hf55 rfl 0 rfl rfl (by decide) (v := .ref xt) rfl dX5_readKeep_45 ?_
      refine lv_bipush (v := iI 59) Ex Eb dX5_readKeep_48 rfl ?_
      refine lo_callV (q0 := 1) (rest := []) E hK hw (kX6_isSign l X xt tt tn na2 (spE pSp T tn tp) nk3 ng4 T 59 (ht) (hT) (by omega) (by omega) (hnk)) (cwV 1 E.2.2.2.2 gX5_readKeep_X6_isSign rfl rfl rfl (by decide +kernel) ⟨Nat.le_of_ble_eq_true rfl, Nat.le_of_ble_eq_true rfl⟩) rfl rfl [1, 2] rfl (by decide) hl.1 rfl rfl (Nat.le_of_ble_eq_true rfl) dX5_readKeep_50 ⟨Nat.le_of_ble_eq_true rfl, Nat.le_of_ble_eq_true rfl⟩ (fun v w1 H locs hq hw => ?_)
      obtain ⟨z7, q50_0, rfl, rfl⟩ := hq
      have hw : lo_Wd X ([oX5 xc xt tg en ex dp a1 a2 a3 s1 s2 s3 z5 ek eo, oX6 xt tt tn na2 (spE pSp T tn tp) nk3 ng4, arB X tt 500 (sB T)]) A9 s9.heap H locs := hw
      refine W.eq (g2 := F0 m9 53 ls [.int (iI z7)]) rfl ?_
      refine lo_if_ne (tgt := 61) E dX5_readKeep_53 (by decide) (by omega) (fun c8 => ?_) (fun c8 => ?_)
      · skip
        exact lo_vret E hRt hLk hK hAe hw dX5_readKeep_61 rfl ⟨na2, spE pSp T tn tp, nk3, ng4, ek, eo, z5, (by first | exact Or.inl ⟨by omega, rfl, rfl, rfl, rfl, rfl, rfl, rfl⟩ | exact Or.inr ⟨by omega, _, _, _, _, Or.inr ⟨by omega, rfl, q12_0⟩, Or.inl ⟨wdY q22_0 (by omega), by omega, ⟨q38_0, q38_2⟩⟩⟩ | exact Or.inr ⟨by omega, _, _, _, _, Or.inr ⟨by omega, rfl, q12_0⟩, Or.inr ⟨wdN q22_0 (by omega), by omega, rfl, rfl, rfl, rfl, by omega⟩⟩), (by omega), rfl, rfl⟩
      · skip
        refine lv_aload_n Ex Eb dX5_readKeep_56 rfl (lv_at hl 0 rfl) ?_
        refine lv_iconst (v := iI 1) Ex Eb dX5_readKeep_57 rfl ?_
        refine lo_callV (q0 := 0) (rest := []) E hK hw (kX5_fail l X xc tg a1 a2 a3 en ex dp s1 s2 s3 z5 ek eo xt tt tn na2 (spE pSp T tn tp) nk3 ng4 1 ) (cwV 1 E.2.2.2.2 gX5_readKeep_X5_fail rfl rfl rfl (by decide +kernel) ⟨Nat.le_of_ble_eq_true rfl, Nat.le_of_ble_eq_true rfl⟩) rfl rfl [0, 1] rfl (by decide) hl.1 rfl rfl (Nat.le_of_ble_eq_true rfl) dX5_readKeep_58 ⟨Nat.le_of_ble_eq_true rfl, Nat.le_of_ble_eq_true rfl⟩ (fun v w1 H locs hq hw => ?_)
        obtain ⟨rfl, rfl⟩ := hq
        have hw : lo_Wd X ([oX5 xc xt tg en ex dp a1 a2 a3 s1 s2 s3 z5 1 (spE pSp T tn tp), oX6 xt tt tn na2 (spE pSp T tn tp) nk3 ng4, arB X tt 500 (sB T)]) A9 s9.heap H locs := hw
        refine W.eq (g2 := F0 m9 61 ls []) rfl ?_
        exact lo_vret E hRt hLk hK hAe hw dX5_readKeep_61 rfl ⟨na2, spE pSp T tn tp, nk3, ng4, 1, spE pSp T tn tp, z5, (by first | exact Or.inl ⟨by omega, rfl, rfl, rfl, rfl, rfl, rfl, rfl⟩ | exact Or.inr ⟨by omega, _, _, _, _, Or.inr ⟨by omega, rfl, q12_0⟩, Or.inl ⟨wdY q22_0 (by omega), by omega, ⟨q38_0, q38_2⟩⟩⟩ | exact Or.inr ⟨by omega, _, _, _, _, Or.inr ⟨by omega, rfl, q12_0⟩, Or.inr ⟨wdN q22_0 (by omega), by omega, rfl, rfl, rfl, rfl, by omega⟩⟩), (by omega), rfl, rfl⟩
    · skip
      refine lv_aload_n Ex Eb dX5_readKeep_35 rfl (lv_at hl 0 rfl) ?_
      refine lv_bipush (v := iI 59) Ex Eb dX5_readKeep_36 rfl ?_
      refine lo_callV (q0 := 0) (rest := []) E hK hw (kX5_expectSign l X xc tg a1 a2 a3 en ex dp s1 s2 s3 z5 ek eo xt tt tn na2 (spE pSp T tn tp) nk3 ng4 T 59 (ht) (hT) (by omega) (hnk) (by omega) (he) (by omega)) (cwV 1 E.2.2.2.2 gX5_readKeep_X5_expectSign rfl rfl rfl (by decide +kernel) ⟨Nat.le_of_ble_eq_true rfl, Nat.le_of_ble_eq_true rfl⟩) rfl rfl [0, 1, 2] rfl (by decide) hl.1 rfl rfl (Nat.le_of_ble_eq_true rfl) dX5_readKeep_38 ⟨Nat.le_of_ble_eq_true rfl, Nat.le_of_ble_eq_true rfl⟩ (fun v w1 H locs hq hw => ?_)
      obtain ⟨na9, nb10, nk11, ng12, ke13, ko14, q38_0, q38_1, q38_2, rfl, rfl⟩ := hq
      have hw : lo_Wd X ([oX5 xc xt tg en ex dp a1 a2 a3 s1 s2 s3 z5 ke13 ko14, oX6 xt tt tn na9 nb10 nk11 ng12, arB X tt 500 (sB T)]) A9 s9.heap H locs := hw
      refine W.eq (g2 := F0 m9 41 ls []) rfl ?_
      refine lv_goto (tgt := 61) Ex Eb dX5_readKeep_41 (by decide) ?_
      exact lo_vret E hRt hLk hK hAe hw dX5_readKeep_61 rfl ⟨na9, nb10, nk11, ng12, ke13, ko14, z5, (by first | exact Or.inl ⟨by omega, rfl, rfl, rfl, rfl, rfl, rfl, rfl⟩ | exact Or.inr ⟨by omega, _, _, _, _, Or.inr ⟨by omega, rfl, q12_0⟩, Or.inl ⟨wdY q22_0 (by omega), by omega, ⟨q38_0, q38_2⟩⟩⟩ | exact Or.inr ⟨by omega, _, _, _, _, Or.inr ⟨by omega, rfl, q12_0⟩, Or.inr ⟨wdN q22_0 (by omega), by omega, rfl, rfl, rfl, rfl, by omega⟩⟩), (by omega), rfl, rfl⟩
  · skip
    exact lo_vret E hRt hLk hK hAe hw dX5_readKeep_7 rfl ⟨tp, ts, tk, tv, ek, eo, kt, (by first | exact Or.inl ⟨by omega, rfl, rfl, rfl, rfl, rfl, rfl, rfl⟩ | exact Or.inr ⟨by omega, _, _, _, _, Or.inr ⟨by omega, rfl, q12_0⟩, Or.inl ⟨wdY q22_0 (by omega), by omega, ⟨q38_0, q38_2⟩⟩⟩ | exact Or.inr ⟨by omega, _, _, _, _, Or.inr ⟨by omega, rfl, q12_0⟩, Or.inr ⟨wdN q22_0 (by omega), by omega, rfl, rfl, rfl, rfl, by omega⟩⟩), (by omega), rfl, rfl⟩
