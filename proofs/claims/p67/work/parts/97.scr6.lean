set_option maxHeartbeats 4000000 in
set_option maxRecDepth 100000 in
theorem kX5_readNumbers_2 (l : Launch) (X : KX) (xc tg a1 a2 a3 : Nat) (en ex dp s1 s2 s3 kt ek eo : Int) (xt tt : Nat) (tn tp ts tk tv : Int) (T : Nat → Int) (p0 p1 : Nat) (pn : Int) (ht : 0 ≤ tn ∧ tn ≤ 500) (hT : ∀ k : Nat, 0 ≤ T k ∧ T k ≤ 255) (hp : 0 ≤ ts ∧ ts ≤ tp ∧ tp ≤ tn) (hk : 0 ≤ tk ∧ tk ≤ 4) (hv : 0 ≤ tv ∧ tv ≤ 9999999) (he : 0 ≤ ek ∧ ek ≤ 9) (hpn : 0 ≤ pn ∧ pn ≤ 6) : CM l X yX5_readNumbers wsX5_readNumbers ({ frames := 6, cells := 0, slots := 0, locals := 248 }) [.ref xc, .int (iI 2)] ([oX5 xc xt tg en ex dp a1 a2 a3 s1 s2 s3 kt ek eo, oX6 xt tt tn tp ts tk tv, arB X tt 500 (sB T), oX3 tg p0 p1 pn]) (fun v9 w9 => ∃ na : Int, ∃ nb : Int, ∃ nk : Int, ∃ ng : Int, ∃ ke : Int, ∃ ko : Int, ∃ z1 : Int, (∃ g1 g2 g3 g4 g5 g6 : Int, NUMS T tn tp ts tk tv ek eo g1 g2 g3 g4 g5 g6 0 (pn - 1) z1 ∧ SIGS T tn g1 g2 g3 g4 g5 g6 na nb nk ng ke ko 59) ∧ ((0 ≤ nb ∧ nb ≤ na ∧ na ≤ tn) ∧ (0 ≤ nk ∧ nk ≤ 4) ∧ (0 ≤ ng ∧ ng ≤ 9999999) ∧ 0 ≤ ke ∧ ke ≤ 9) ∧ v9 = none ∧ w9 = [oX5 xc xt tg en ex dp a1 a2 a3 z1 s2 s3 kt ke ko, oX6 xt tt tn na nb nk ng, arB X tt 500 (sB T), oX3 tg p0 p1 pn]) 0 0 := by
  refine lo_enter (cc := cX5_readNumbers) (maxL := 2) (ret := none) (lv := [(0, .ref xc), (1, .int (iI 2))]) (by decide) rfl rfl (Nat.le_of_ble_eq_true rfl) ?_
  intro p9 e9 s9 m9 bl9 me9 c9 A9 ls hAe E hRt hLk hK hl hw
  have Ex := E.1
  have Eb := E.2.1
  have huRX5 : ∀ w ∈ u_ws RX5 TX5 14, w ∈ wsX5_readNumbers := by decide +kernel
  have hf59 : (Cond.fieldLink RX5 59 "LoanSchedule$Script" "target" "LLoanSchedule$Plan;").before _ s9 = true := E.2.2.2.2 _ (List.mem_of_getElem? (i := 5) rfl)
  have huRX3 : ∀ w ∈ u_ws RX3 TX3 3, w ∈ wsX5_readNumbers := by decide +kernel
  have hf148 : (Cond.fieldLink RX5 148 "LoanSchedule$Plan" "count" "I").before _ s9 = true := E.2.2.2.2 _ (List.mem_of_getElem? (i := 6) rfl)
  have hf32 : (Cond.fieldLink RX5 32 "LoanSchedule$Script" "first" "I").before _ s9 = true := E.2.2.2.2 _ (List.mem_of_getElem? (i := 2) rfl)
  refine lv_iload_n Ex Eb dX5_readNumbers_0 rfl (lv_at hl 1 rfl) ?_
  refine lv_iconst (v := iI 1) Ex Eb dX5_readNumbers_1 rfl ?_
  refine lo_icmp_ne (tgt := 42) E dX5_readNumbers_2 (by decide) (by omega) (by omega) (fun c1 => ?_) (fun c1 => ?_)
  · skip
    refine lv_iload_n Ex Eb dX5_readNumbers_42 rfl (lv_at hl 1 rfl) ?_
    refine lv_iconst (v := iI 3) Ex Eb dX5_readNumbers_43 rfl ?_
    refine lo_icmp_eq (tgt := 65) E dX5_readNumbers_44 (by decide) (by omega) (by omega) (fun c2 => ?_) (fun c2 => ?_)
    · exact absurd c2 (by omega)
    · skip
      refine lv_aload_n Ex Eb dX5_readNumbers_47 rfl (lv_at hl 0 rfl) ?_
      refine lv_aload_n Ex Eb dX5_readNumbers_48 rfl (lv_at hl 0 rfl) ?_
      refine lv_iconst (v := iI 0) Ex Eb dX5_readNumbers_49 rfl ?_
      refine lv_aload_n Ex Eb dX5_readNumbers_50 rfl (lv_at hl 0 rfl) ?_
      refine lo_get E hK hw huRX5 1 hf59 rfl 0 rfl rfl (by decide) (v := .ref tg) rfl dX5_readNumbers_51 ?_
      refine lo_get E hK hw huRX3 2 hf148 rfl 3 rfl rfl (by decide) (v := .int (iI pn)) rfl dX5_readNumbers_54 ?_
      refine lv_iconst (v := iI 1) Ex Eb dX5_readNumbers_57 rfl ?_
      refine lo_isub E dX5_readNumbers_58 ?_
      refine lo_callV (q0 := 0) (rest := [.ref xc]) E hK hw (kX5_expectNumber l X xc tg a1 a2 a3 en ex dp s1 s2 s3 kt ek eo xt tt tn tp ts tk tv T 0 (pn - 1) (ht) (hT) (by omega) (by omega) (by omega) (by omega) (by omega) (by omega)) (cwV 2 E.2.2.2.2 gX5_readNumbers_X5_expectNumber rfl rfl rfl (by decide +kernel) ⟨Nat.le_of_ble_eq_true rfl, Nat.le_of_ble_eq_true rfl⟩) rfl rfl [0, 1, 2] rfl (by decide) hl.1 rfl rfl (Nat.le_of_ble_eq_true rfl) dX5_readNumbers_59 ⟨Nat.le_of_ble_eq_true rfl, Nat.le_of_ble_eq_true rfl⟩ (fun v w1 H locs hq hw => ?_)
      obtain ⟨na3, nb4, nk5, ng6, ke7, ko8, z9, q59_0, q59_1, q59_2, rfl, rfl⟩ := hq
      have hw : lo_Wd X ([oX5 xc xt tg en ex dp a1 a2 a3 s1 s2 s3 kt ke7 ko8, oX6 xt tt tn na3 nb4 nk5 ng6, arB X tt 500 (sB T), oX3 tg p0 p1 pn]) A9 s9.heap H locs := hw
      refine W.eq (g2 := F0 m9 62 ls [.int (iI z9), .ref xc]) rfl ?_
      refine lo_put E hK hw huRX5 tyX5 tyX5_ok nmX5 8 hf32 rfl 0 rfl rfl (by decide) rfl rfl rfl rfl (Nat.le_of_ble_eq_true rfl) (ws' := [oX5 xc xt tg en ex dp a1 a2 a3 z9 s2 s3 kt ke7 ko8, oX6 xt tt tn na3 nb4 nk5 ng6, arB X tt 500 (sB T), oX3 tg p0 p1 pn]) rfl dX5_readNumbers_62 (fun H locs hw => ?_)
      refine lv_iload_n Ex Eb dX5_readNumbers_65 rfl (lv_at hl 1 rfl) ?_
      refine lv_bipush (v := iI 6) Ex Eb dX5_readNumbers_66 rfl ?_
      refine lo_icmp_ne (tgt := 86) E dX5_readNumbers_68 (by decide) (by omega) (by omega) (fun c10 => ?_) (fun c10 => ?_)
      · skip
        refine lv_iload_n Ex Eb dX5_readNumbers_86 rfl (lv_at hl 1 rfl) ?_
        refine lv_bipush (v := iI 7) Ex Eb dX5_readNumbers_87 rfl ?_
        refine lo_icmp_ne (tgt := 106) E dX5_readNumbers_89 (by decide) (by omega) (by omega) (fun c11 => ?_) (fun c11 => ?_)
        · skip
          refine lv_iload_n Ex Eb dX5_readNumbers_106 rfl (lv_at hl 1 rfl) ?_
          refine lv_iconst (v := iI 4) Ex Eb dX5_readNumbers_107 rfl ?_
          refine lo_icmp_ne (tgt := 127) E dX5_readNumbers_108 (by decide) (by omega) (by omega) (fun c12 => ?_) (fun c12 => ?_)
          · skip
            refine lv_aload_n Ex Eb dX5_readNumbers_127 rfl (lv_at hl 0 rfl) ?_
            refine lv_bipush (v := iI 59) Ex Eb dX5_readNumbers_128 rfl ?_
            refine lo_callV (q0 := 0) (rest := []) E hK hw (kX5_expectSign l X xc tg a1 a2 a3 en ex dp z9 s2 s3 kt ke7 ko8 xt tt tn na3 nb4 nk5 ng6 T 59 (ht) (hT) (by omega) (by omega) (by omega) (by omega) (by omega)) (cwV 1 E.2.2.2.2 gX5_readNumbers_X5_expectSign rfl rfl rfl (by decide +kernel) ⟨Nat.le_of_ble_eq_true rfl, Nat.le_of_ble_eq_true rfl⟩) rfl rfl [0, 1, 2] rfl (by decide) hl.1 rfl rfl (Nat.le_of_ble_eq_true rfl) dX5_readNumbers_130 ⟨Nat.le_of_ble_eq_true rfl, Nat.le_of_ble_eq_true rfl⟩ (fun v w1 H locs hq hw => ?_)
            obtain ⟨na13, nb14, nk15, ng16, ke17, ko18, q130_0, q130_1, q130_2, rfl, rfl⟩ := hq
            have hw : lo_Wd X ([oX5 xc xt tg en ex dp a1 a2 a3 z9 s2 s3 kt ke17 ko18, oX6 xt tt tn na13 nb14 nk15 ng16, arB X tt 500 (sB T), oX3 tg p0 p1 pn]) A9 s9.heap H locs := hw
            refine W.eq (g2 := F0 m9 133 ls []) rfl ?_
            exact lo_vret E hRt hLk hK hAe hw dX5_readNumbers_133 rfl ⟨na13, nb14, nk15, ng16, ke17, ko18, z9, (⟨_, _, _, _, _, _, ⟨q59_0, q59_2⟩, ⟨q130_0, q130_2⟩⟩), (by omega), rfl, rfl⟩
          · exact absurd c12 (by omega)
        · exact absurd c11 (by omega)
      · exact absurd c10 (by omega)
  · exact absurd c1 (by omega)
set_option maxHeartbeats 4000000 in
set_option maxRecDepth 100000 in
theorem kX5_readNumbers_5 (l : Launch) (X : KX) (xc tg a1 a2 a3 : Nat) (en ex dp s1 s2 s3 kt ek eo : Int) (xt tt : Nat) (tn tp ts tk tv : Int) (T : Nat → Int) (p0 p1 : Nat) (pn : Int) (ht : 0 ≤ tn ∧ tn ≤ 500) (hT : ∀ k : Nat, 0 ≤ T k ∧ T k ≤ 255) (hp : 0 ≤ ts ∧ ts ≤ tp ∧ tp ≤ tn) (hk : 0 ≤ tk ∧ tk ≤ 4) (hv : 0 ≤ tv ∧ tv ≤ 9999999) (he : 0 ≤ ek ∧ ek ≤ 9) (hpn : 0 ≤ pn ∧ pn ≤ 6) : CM l X yX5_readNumbers wsX5_readNumbers ({ frames := 6, cells := 0, slots := 0, locals := 248 }) [.ref xc, .int (iI 5)] ([oX5 xc xt tg en ex dp a1 a2 a3 s1 s2 s3 kt ek eo, oX6 xt tt tn tp ts tk tv, arB X tt 500 (sB T), oX3 tg p0 p1 pn]) (fun v9 w9 => ∃ na : Int, ∃ nb : Int, ∃ nk : Int, ∃ ng : Int, ∃ ke : Int, ∃ ko : Int, ∃ z1 : Int, (∃ g1 g2 g3 g4 g5 g6 : Int, NUMS T tn tp ts tk tv ek eo g1 g2 g3 g4 g5 g6 0 (pn - 1) z1 ∧ SIGS T tn g1 g2 g3 g4 g5 g6 na nb nk ng ke ko 59) ∧ ((0 ≤ nb ∧ nb ≤ na ∧ na ≤ tn) ∧ (0 ≤ nk ∧ nk ≤ 4) ∧ (0 ≤ ng ∧ ng ≤ 9999999) ∧ 0 ≤ ke ∧ ke ≤ 9) ∧ v9 = none ∧ w9 = [oX5 xc xt tg en ex dp a1 a2 a3 z1 s2 s3 kt ke ko, oX6 xt tt tn na nb nk ng, arB X tt 500 (sB T), oX3 tg p0 p1 pn]) 0 0 := by
  refine lo_enter (cc := cX5_readNumbers) (maxL := 2) (ret := none) (lv := [(0, .ref xc), (1, .int (iI 5))]) (by decide) rfl rfl (Nat.le_of_ble_eq_true rfl) ?_
  intro p9 e9 s9 m9 bl9 me9 c9 A9 ls hAe E hRt hLk hK hl hw
  have Ex := E.1
  have Eb := E.2.1
  have huRX5 : ∀ w ∈ u_ws RX5 TX5 14, w ∈ wsX5_readNumbers := by decide +kernel
  have hf59 : (Cond.fieldLink RX5 59 "LoanSchedule$Script" "target" "LLoanSchedule$Plan;").before _ s9 = true := E.2.2.2.2 _ (List.mem_of_getElem? (i := 5) rfl)
  have huRX3 : ∀ w ∈ u_ws RX3 TX3 3, w ∈ wsX5_readNumbers := by decide +kernel
  have hf148 : (Cond.fieldLink RX5 148 "LoanSchedule$Plan" "count" "I").before _ s9 = true := E.2.2.2.2 _ (List.mem_of_getElem? (i := 6) rfl)
  have hf32 : (Cond.fieldLink RX5 32 "LoanSchedule$Script" "first" "I").before _ s9 = true := E.2.2.2.2 _ (List.mem_of_getElem? (i := 2) rfl)
  refine lv_iload_n Ex Eb dX5_readNumbers_0 rfl (lv_at hl 1 rfl) ?_
  refine lv_iconst (v := iI 1) Ex Eb dX5_readNumbers_1 rfl ?_
  refine lo_icmp_ne (tgt := 42) E dX5_readNumbers_2 (by decide) (by omega) (by omega) (fun c1 => ?_) (fun c1 => ?_)
  · skip
    refine lv_iload_n Ex Eb dX5_readNumbers_42 rfl (lv_at hl 1 rfl) ?_
    refine lv_iconst (v := iI 3) Ex Eb dX5_readNumbers_43 rfl ?_
    refine lo_icmp_eq (tgt := 65) E dX5_readNumbers_44 (by decide) (by omega) (by omega) (fun c2 => ?_) (fun c2 => ?_)
    · exact absurd c2 (by omega)
    · skip
      refine lv_aload_n Ex Eb dX5_readNumbers_47 rfl (lv_at hl 0 rfl) ?_
      refine lv_aload_n Ex Eb dX5_readNumbers_48 rfl (lv_at hl 0 rfl) ?_
      refine lv_iconst (v := iI 0) Ex Eb dX5_readNumbers_49 rfl ?_
      refine lv_aload_n Ex Eb dX5_readNumbers_50 rfl (lv_at hl 0 rfl) ?_
      refine lo_get E hK hw huRX5 1 hf59 rfl 0 rfl rfl (by decide) (v := .ref tg) rfl dX5_readNumbers_51 ?_
      refine lo_get E hK hw huRX3 2 hf148 rfl 3 rfl rfl (by decide) (v := .int (iI pn)) rfl dX5_readNumbers_54 ?_
      refine lv_iconst (v := iI 1) Ex Eb dX5_readNumbers_57 rfl ?_
      refine lo_isub E dX5_readNumbers_58 ?_
      refine lo_callV (q0 := 0) (rest := [.ref xc]) E hK hw (kX5_expectNumber l X xc tg a1 a2 a3 en ex dp s1 s2 s3 kt ek eo xt tt tn tp ts tk tv T 0 (pn - 1) (ht) (hT) (by omega) (by omega) (by omega) (by omega) (by omega) (by omega)) (cwV 2 E.2.2.2.2 gX5_readNumbers_X5_expectNumber rfl rfl rfl (by decide +kernel) ⟨Nat.le_of_ble_eq_true rfl, Nat.le_of_ble_eq_true rfl⟩) rfl rfl [0, 1, 2] rfl (by decide) hl.1 rfl rfl (Nat.le_of_ble_eq_true rfl) dX5_readNumbers_59 ⟨Nat.le_of_ble_eq_true rfl, Nat.le_of_ble_eq_true rfl⟩ (fun v w1 H locs hq hw => ?_)
      obtain ⟨na3, nb4, nk5, ng6, ke7, ko8, z9, q59_0, q59_1, q59_2, rfl, rfl⟩ := hq
      have hw : lo_Wd X ([oX5 xc xt tg en ex dp a1 a2 a3 s1 s2 s3 kt ke7 ko8, oX6 xt tt tn na3 nb4 nk5 ng6, arB X tt 500 (sB T), oX3 tg p0 p1 pn]) A9 s9.heap H locs := hw
      refine W.eq (g2 := F0 m9 62 ls [.int (iI z9), .ref xc]) rfl ?_
      refine lo_put E hK hw huRX5 tyX5 tyX5_ok nmX5 8 hf32 rfl 0 rfl rfl (by decide) rfl rfl rfl rfl (Nat.le_of_ble_eq_true rfl) (ws' := [oX5 xc xt tg en ex dp a1 a2 a3 z9 s2 s3 kt ke7 ko8, oX6 xt tt tn na3 nb4 nk5 ng6, arB X tt 500 (sB T), oX3 tg p0 p1 pn]) rfl dX5_readNumbers_62 (fun H locs hw => ?_)
      refine lv_iload_n Ex Eb dX5_readNumbers_65 rfl (lv_at hl 1 rfl) ?_
      refine lv_bipush (v := iI 6) Ex Eb dX5_readNumbers_66 rfl ?_
      refine lo_icmp_ne (tgt := 86) E dX5_readNumbers_68 (by decide) (by omega) (by omega) (fun c10 => ?_) (fun c10 => ?_)
      · skip
        refine lv_iload_n Ex Eb dX5_readNumbers_86 rfl (lv_at hl 1 rfl) ?_
        refine lv_bipush (v := iI 7) Ex Eb dX5_readNumbers_87 rfl ?_
        refine lo_icmp_ne (tgt := 106) E dX5_readNumbers_89 (by decide) (by omega) (by omega) (fun c11 => ?_) (fun c11 => ?_)
        · skip
          refine lv_iload_n Ex Eb dX5_readNumbers_106 rfl (lv_at hl 1 rfl) ?_
          refine lv_iconst (v := iI 4) Ex Eb dX5_readNumbers_107 rfl ?_
          refine lo_icmp_ne (tgt := 127) E dX5_readNumbers_108 (by decide) (by omega) (by omega) (fun c12 => ?_) (fun c12 => ?_)
          · skip
            refine lv_aload_n Ex Eb dX5_readNumbers_127 rfl (lv_at hl 0 rfl) ?_
            refine lv_bipush (v := iI 59) Ex Eb dX5_readNumbers_128 rfl ?_
            refine lo_callV (q0 := 0) (rest := []) E hK hw (kX5_expectSign l X xc tg a1 a2 a3 en ex dp z9 s2 s3 kt ke7 ko8 xt tt tn na3 nb4 nk5 ng6 T 59 (ht) (hT) (by omega) (by omega) (by omega) (by omega) (by omega)) (cwV 1 E.2.2.2.2 gX5_readNumbers_X5_expectSign rfl rfl rfl (by decide +kernel) ⟨Nat.le_of_ble_eq_true rfl, Nat.le_of_ble_eq_true rfl⟩) rfl rfl [0, 1, 2] rfl (by decide) hl.1 rfl rfl (Nat.le_of_ble_eq_true rfl) dX5_readNumbers_130 ⟨Nat.le_of_ble_eq_true rfl, Nat.le_of_ble_eq_true rfl⟩ (fun v w1 H locs hq hw => ?_)
            obtain ⟨na13, nb14, nk15, ng16, ke17, ko18, q130_0, q130_1, q130_2, rfl, rfl⟩ := hq
            have hw : lo_Wd X ([oX5 xc xt tg en ex dp a1 a2 a3 z9 s2 s3 kt ke17 ko18, oX6 xt tt tn na13 nb14 nk15 ng16, arB X tt 500 (sB T), oX3 tg p0 p1 pn]) A9 s9.heap H locs := hw
            refine W.eq (g2 := F0 m9 133 ls []) rfl ?_
            exact lo_vret E hRt hLk hK hAe hw dX5_readNumbers_133 rfl ⟨na13, nb14, nk15, ng16, ke17, ko18, z9, (⟨_, _, _, _, _, _, ⟨q59_0, q59_2⟩, ⟨q130_0, q130_2⟩⟩), (by omega), rfl, rfl⟩
          · exact absurd c12 (by omega)
        · exact absurd c11 (by omega)
      · exact absurd c10 (by omega)
  · exact absurd c1 (by omega)
set_option maxHeartbeats 4000000 in
set_option maxRecDepth 100000 in
theorem kX5_readNumbers_6 (l : Launch) (X : KX) (xc tg a1 a2 a3 : Nat) (en ex dp s1 s2 s3 kt ek eo : Int) (xt tt : Nat) (tn tp ts tk tv : Int) (T : Nat → Int) (p0 p1 : Nat) (pn : Int) (ht : 0 ≤ tn ∧ tn ≤ 500) (hT : ∀ k : Nat, 0 ≤ T k ∧ T k ≤ 255) (hp : 0 ≤ ts ∧ ts ≤ tp ∧ tp ≤ tn) (hk : 0 ≤ tk ∧ tk ≤ 4) (hv : 0 ≤ tv ∧ tv ≤ 9999999) (he : 0 ≤ ek ∧ ek ≤ 9) (hpn : 0 ≤ pn ∧ pn ≤ 6) : CM l X yX5_readNumbers wsX5_readNumbers ({ frames := 6, cells := 0, slots := 0, locals := 248 }) [.ref xc, .int (iI 6)] ([oX5 xc xt tg en ex dp a1 a2 a3 s1 s2 s3 kt ek eo, oX6 xt tt tn tp ts tk tv, arB X tt 500 (sB T), oX3 tg p0 p1 pn]) (fun v9 w9 => ∃ na : Int, ∃ nb : Int, ∃ nk : Int, ∃ ng : Int, ∃ ke : Int, ∃ ko : Int, ∃ z1 : Int, ∃ z2 : Int, (∃ g1 g2 g3 g4 g5 g6 h1 h2 h3 h4 h5 h6 : Int, NUMS T tn tp ts tk tv ek eo g1 g2 g3 g4 g5 g6 0 (pn - 1) z1 ∧ NUMS T tn g1 g2 g3 g4 g5 g6 h1 h2 h3 h4 h5 h6 0 3000 z2 ∧ SIGS T tn h1 h2 h3 h4 h5 h6 na nb nk ng ke ko 59) ∧ ((0 ≤ nb ∧ nb ≤ na ∧ na ≤ tn) ∧ (0 ≤ nk ∧ nk ≤ 4) ∧ (0 ≤ ng ∧ ng ≤ 9999999) ∧ 0 ≤ ke ∧ ke ≤ 9) ∧ v9 = none ∧ w9 = [oX5 xc xt tg en ex dp a1 a2 a3 z1 z2 s3 kt ke ko, oX6 xt tt tn na nb nk ng, arB X tt 500 (sB T), oX3 tg p0 p1 pn]) 0 0 := by
  refine lo_enter (cc := cX5_readNumbers) (maxL := 2) (ret := none) (lv := [(0, .ref xc), (1, .int (iI 6))]) (by decide) rfl rfl (Nat.le_of_ble_eq_true rfl) ?_
  intro p9 e9 s9 m9 bl9 me9 c9 A9 ls hAe E hRt hLk hK hl hw
  have Ex := E.1
  have Eb := E.2.1
  have huRX5 : ∀ w ∈ u_ws RX5 TX5 14, w ∈ wsX5_readNumbers := by decide +kernel
  have hf59 : (Cond.fieldLink RX5 59 "LoanSchedule$Script" "target" "LLoanSchedule$Plan;").before _ s9 = true := E.2.2.2.2 _ (List.mem_of_getElem? (i := 5) rfl)
  have huRX3 : ∀ w ∈ u_ws RX3 TX3 3, w ∈ wsX5_readNumbers := by decide +kernel
  have hf148 : (Cond.fieldLink RX5 148 "LoanSchedule$Plan" "count" "I").before _ s9 = true := E.2.2.2.2 _ (List.mem_of_getElem? (i := 6) rfl)
  have hf32 : (Cond.fieldLink RX5 32 "LoanSchedule$Script" "first" "I").before _ s9 = true := E.2.2.2.2 _ (List.mem_of_getElem? (i := 2) rfl)
  have hf35 : (Cond.fieldLink RX5 35 "LoanSchedule$Script" "second" "I").before _ s9 = true := E.2.2.2.2 _ (List.mem_of_getElem? (i := 3) rfl)
  refine lv_iload_n Ex Eb dX5_readNumbers_0 rfl (lv_at hl 1 rfl) ?_
  refine lv_iconst (v := iI 1) Ex Eb dX5_readNumbers_1 rfl ?_
  refine lo_icmp_ne (tgt := 42) E dX5_readNumbers_2 (by decide) (by omega) (by omega) (fun c1 => ?_) (fun c1 => ?_)
  · skip
    refine lv_iload_n Ex Eb dX5_readNumbers_42 rfl (lv_at hl 1 rfl) ?_
    refine lv_iconst (v := iI 3) Ex Eb dX5_readNumbers_43 rfl ?_
    refine lo_icmp_eq (tgt := 65) E dX5_readNumbers_44 (by decide) (by omega) (by omega) (fun c2 => ?_) (fun c2 => ?_)
    · exact absurd c2 (by omega)
    · skip
      refine lv_aload_n Ex Eb dX5_readNumbers_47 rfl (lv_at hl 0 rfl) ?_
      refine lv_aload_n Ex Eb dX5_readNumbers_48 rfl (lv_at hl 0 rfl) ?_
      refine lv_iconst (v := iI 0) Ex Eb dX5_readNumbers_49 rfl ?_
      refine lv_aload_n Ex Eb dX5_readNumbers_50 rfl (lv_at hl 0 rfl) ?_
      refine lo_get E hK hw huRX5 1 hf59 rfl 0 rfl rfl (by decide) (v := .ref tg) rfl dX5_readNumbers_51 ?_
      refine lo_get E hK hw huRX3 2 hf148 rfl 3 rfl rfl (by decide) (v := .int (iI pn)) rfl dX5_readNumbers_54 ?_
      refine lv_iconst (v := iI 1) Ex Eb dX5_readNumbers_57 rfl ?_
      refine lo_isub E dX5_readNumbers_58 ?_
      refine lo_callV (q0 := 0) (rest := [.ref xc]) E hK hw (kX5_expectNumber l X xc tg a1 a2 a3 en ex dp s1 s2 s3 kt ek eo xt tt tn tp ts tk tv T 0 (pn - 1) (ht) (hT) (by omega) (by omega) (by omega) (by omega) (by omega) (by omega)) (cwV 2 E.2.2.2.2 gX5_readNumbers_X5_expectNumber rfl rfl rfl (by decide +kernel) ⟨Nat.le_of_ble_eq_true rfl, Nat.le_of_ble_eq_true rfl⟩) rfl rfl [0, 1, 2] rfl (by decide) hl.1 rfl rfl (Nat.le_of_ble_eq_true rfl) dX5_readNumbers_59 ⟨Nat.le_of_ble_eq_true rfl, Nat.le_of_ble_eq_true rfl⟩ (fun v w1 H locs hq hw => ?_)
      obtain ⟨na3, nb4, nk5, ng6, ke7, ko8, z9, q59_0, q59_1, q59_2, rfl, rfl⟩ := hq
      have hw : lo_Wd X ([oX5 xc xt tg en ex dp a1 a2 a3 s1 s2 s3 kt ke7 ko8, oX6 xt tt tn na3 nb4 nk5 ng6, arB X tt 500 (sB T), oX3 tg p0 p1 pn]) A9 s9.heap H locs := hw
      refine W.eq (g2 := F0 m9 62 ls [.int (iI z9), .ref xc]) rfl ?_
      refine lo_put E hK hw huRX5 tyX5 tyX5_ok nmX5 8 hf32 rfl 0 rfl rfl (by decide) rfl rfl rfl rfl (Nat.le_of_ble_eq_true rfl) (ws' := [oX5 xc xt tg en ex dp a1 a2 a3 z9 s2 s3 kt ke7 ko8, oX6 xt tt tn na3 nb4 nk5 ng6, arB X tt 500 (sB T), oX3 tg p0 p1 pn]) rfl dX5_readNumbers_62 (fun H locs hw => ?_)
      refine lv_iload_n Ex Eb dX5_readNumbers_65 rfl (lv_at hl 1 rfl) ?_
      refine lv_bipush (v := iI 6) Ex Eb dX5_readNumbers_66 rfl ?_
      refine lo_icmp_ne (tgt := 86) E dX5_readNumbers_68 (by decide) (by omega) (by omega) (fun c10 => ?_) (fun c10 => ?_)
      · exact absurd c10 (by omega)
      · skip
        refine lv_aload_n Ex Eb dX5_readNumbers_71 rfl (lv_at hl 0 rfl) ?_
        refine lv_aload_n Ex Eb dX5_readNumbers_72 rfl (lv_at hl 0 rfl) ?_
        refine lv_iconst (v := iI 0) Ex Eb dX5_readNumbers_73 rfl ?_
        refine lv_sipush (v := iI 3000) Ex Eb dX5_readNumbers_74 rfl ?_
        refine lo_callV (q0 := 0) (rest := [.ref xc]) E hK hw (kX5_expectNumber l X xc tg a1 a2 a3 en ex dp z9 s2 s3 kt ke7 ko8 xt tt tn na3 nb4 nk5 ng6 T 0 3000 (ht) (hT) (by omega) (by omega) (by omega) (by omega) (by omega) (by omega)) (cwV 2 E.2.2.2.2 gX5_readNumbers_X5_expectNumber rfl rfl rfl (by decide +kernel) ⟨Nat.le_of_ble_eq_true rfl, Nat.le_of_ble_eq_true rfl⟩) rfl rfl [0, 1, 2] rfl (by decide) hl.1 rfl rfl (Nat.le_of_ble_eq_true rfl) dX5_readNumbers_77 ⟨Nat.le_of_ble_eq_true rfl, Nat.le_of_ble_eq_true rfl⟩ (fun v w1 H locs hq hw => ?_)
        obtain ⟨na11, nb12, nk13, ng14, ke15, ko16, z17, q77_0, q77_1, q77_2, rfl, rfl⟩ := hq
        have hw : lo_Wd X ([oX5 xc xt tg en ex dp a1 a2 a3 z9 s2 s3 kt ke15 ko16, oX6 xt tt tn na11 nb12 nk13 ng14, arB X tt 500 (sB T), oX3 tg p0 p1 pn]) A9 s9.heap H locs := hw
        refine W.eq (g2 := F0 m9 80 ls [.int (iI z17), .ref xc]) rfl ?_
        refine lo_put E hK hw huRX5 tyX5 tyX5_ok nmX5 9 hf35 rfl 0 rfl rfl (by decide) rfl rfl rfl rfl (Nat.le_of_ble_eq_true rfl) (ws' := [oX5 xc xt tg en ex dp a1 a2 a3 z9 z17 s3 kt ke15 ko16, oX6 xt tt tn na11 nb12 nk13 ng14, arB X tt 500 (sB T), oX3 tg p0 p1 pn]) rfl dX5_readNumbers_80 (fun H locs hw => ?_)
        refine lv_goto (tgt := 127) Ex Eb dX5_readNumbers_83 (by decide) ?_
        refine lv_aload_n Ex Eb dX5_readNumbers_127 rfl (lv_at hl 0 rfl) ?_
        refine lv_bipush (v := iI 59) Ex Eb dX5_readNumbers_128 rfl ?_
        refine lo_callV (q0 := 0) (rest := []) E hK hw (kX5_expectSign l X xc tg a1 a2 a3 en ex dp z9 z17 s3 kt ke15 ko16 xt tt tn na11 nb12 nk13 ng14 T 59 (ht) (hT) (by omega) (by omega) (by omega) (by omega) (by omega)) (cwV 1 E.2.2.2.2 gX5_readNumbers_X5_expectSign rfl rfl rfl (by decide +kernel) ⟨Nat.le_of_ble_eq_true rfl, Nat.le_of_ble_eq_true rfl⟩) rfl rfl [0, 1, 2] rfl (by decide) hl.1 rfl rfl (Nat.le_of_ble_eq_true rfl) dX5_readNumbers_130 ⟨Nat.le_of_ble_eq_true rfl, Nat.le_of_ble_eq_true rfl⟩ (fun v w1 H locs hq hw => ?_)
        obtain ⟨na18, nb19, nk20, ng21, ke22, ko23, q130_0, q130_1, q130_2, rfl, rfl⟩ := hq
        have hw : lo_Wd X ([oX5 xc xt tg en ex dp a1 a2 a3 z9 z17 s3 kt ke22 ko23, oX6 xt tt tn na18 nb19 nk20 ng21, arB X tt 500 (sB T), oX3 tg p0 p1 pn]) A9 s9.heap H locs := hw
        refine W.eq (g2 := F0 m9 133 ls []) rfl ?_
        exact lo_vret E hRt hLk hK hAe hw dX5_readNumbers_133 rfl ⟨na18, nb19, nk20, ng21, ke22, ko23, z9, z17, (⟨_, _, _, _, _, _, _, _, _, _, _, _, ⟨q59_0, q59_2⟩, ⟨q77_0, q77_2⟩, ⟨q130_0, q130_2⟩⟩), (by omega), rfl, rfl⟩
  · exact absurd c1 (by omega)
set_option maxHeartbeats 4000000 in
set_option maxRecDepth 100000 in
theorem kX5_readNumbers_7 (l : Launch) (X : KX) (xc tg a1 a2 a3 : Nat) (en ex dp s1 s2 s3 kt ek eo : Int) (xt tt : Nat) (tn tp ts tk tv : Int) (T : Nat → Int) (p0 p1 : Nat) (pn : Int) (ht : 0 ≤ tn ∧ tn ≤ 500) (hT : ∀ k : Nat, 0 ≤ T k ∧ T k ≤ 255) (hp : 0 ≤ ts ∧ ts ≤ tp ∧ tp ≤ tn) (hk : 0 ≤ tk ∧ tk ≤ 4) (hv : 0 ≤ tv ∧ tv ≤ 9999999) (he : 0 ≤ ek ∧ ek ≤ 9) (hpn : 0 ≤ pn ∧ pn ≤ 6) : CM l X yX5_readNumbers wsX5_readNumbers ({ frames := 6, cells := 0, slots := 0, locals := 248 }) [.ref xc, .int (iI 7)] ([oX5 xc xt tg en ex dp a1 a2 a3 s1 s2 s3 kt ek eo, oX6 xt tt tn tp ts tk tv, arB X tt 500 (sB T), oX3 tg p0 p1 pn]) (fun v9 w9 => ∃ na : Int, ∃ nb : Int, ∃ nk : Int, ∃ ng : Int, ∃ ke : Int, ∃ ko : Int, ∃ z1 : Int, ∃ z2 : Int, (∃ g1 g2 g3 g4 g5 g6 h1 h2 h3 h4 h5 h6 : Int, NUMS T tn tp ts tk tv ek eo g1 g2 g3 g4 g5 g6 0 (pn - 1) z1 ∧ NUMS T tn g1 g2 g3 g4 g5 g6 h1 h2 h3 h4 h5 h6 1 60 z2 ∧ SIGS T tn h1 h2 h3 h4 h5 h6 na nb nk ng ke ko 59) ∧ ((0 ≤ nb ∧ nb ≤ na ∧ na ≤ tn) ∧ (0 ≤ nk ∧ nk ≤ 4) ∧ (0 ≤ ng ∧ ng ≤ 9999999) ∧ 0 ≤ ke ∧ ke ≤ 9) ∧ v9 = none ∧ w9 = [oX5 xc xt tg en ex dp a1 a2 a3 z1 z2 s3 kt ke ko, oX6 xt tt tn na nb nk ng, arB X tt 500 (sB T), oX3 tg p0 p1 pn]) 0 0 := by
  refine lo_enter (cc := cX5_readNumbers) (maxL := 2) (ret := none) (lv := [(0, .ref xc), (1, .int (iI 7))]) (by decide) rfl rfl (Nat.le_of_ble_eq_true rfl) ?_
  intro p9 e9 s9 m9 bl9 me9 c9 A9 ls hAe E hRt hLk hK hl hw
  have Ex := E.1
  have Eb := E.2.1
  have huRX5 : ∀ w ∈ u_ws RX5 TX5 14, w ∈ wsX5_readNumbers := by decide +kernel
  have hf59 : (Cond.fieldLink RX5 59 "LoanSchedule$Script" "target" "LLoanSchedule$Plan;").before _ s9 = true := E.2.2.2.2 _ (List.mem_of_getElem? (i := 5) rfl)
  have huRX3 : ∀ w ∈ u_ws RX3 TX3 3, w ∈ wsX5_readNumbers := by decide +kernel
  have hf148 : (Cond.fieldLink RX5 148 "LoanSchedule$Plan" "count" "I").before _ s9 = true := E.2.2.2.2 _ (List.mem_of_getElem? (i := 6) rfl)
  have hf32 : (Cond.fieldLink RX5 32 "LoanSchedule$Script" "first" "I").before _ s9 = true := E.2.2.2.2 _ (List.mem_of_getElem? (i := 2) rfl)
  have hf35 : (Cond.fieldLink RX5 35 "LoanSchedule$Script" "second" "I").before _ s9 = true := E.2.2.2.2 _ (List.mem_of_getElem? (i := 3) rfl)
  refine lv_iload_n Ex Eb dX5_readNumbers_0 rfl (lv_at hl 1 rfl) ?_
  refine lv_iconst (v := iI 1) Ex Eb dX5_readNumbers_1 rfl ?_
  refine lo_icmp_ne (tgt := 42) E dX5_readNumbers_2 (by decide) (by omega) (by omega) (fun c1 => ?_) (fun c1 => ?_)
  · skip
    refine lv_iload_n Ex Eb dX5_readNumbers_42 rfl (lv_at hl 1 rfl) ?_
    refine lv_iconst (v := iI 3) Ex Eb dX5_readNumbers_43 rfl ?_
    refine lo_icmp_eq (tgt := 65) E dX5_readNumbers_44 (by decide) (by omega) (by omega) (fun c2 => ?_) (fun c2 => ?_)
    · exact absurd c2 (by omega)
    · skip
      refine lv_aload_n Ex Eb dX5_readNumbers_47 rfl (lv_at hl 0 rfl) ?_
      refine lv_aload_n Ex Eb dX5_readNumbers_48 rfl (lv_at hl 0 rfl) ?_
      refine lv_iconst (v := iI 0) Ex Eb dX5_readNumbers_49 rfl ?_
      refine lv_aload_n Ex Eb dX5_readNumbers_50 rfl (lv_at hl 0 rfl) ?_
      refine lo_get E hK hw huRX5 1 hf59 rfl 0 rfl rfl (by decide) (v := .ref tg) rfl dX5_readNumbers_51 ?_
      refine lo_get E hK hw huRX3 2 hf148 rfl 3 rfl rfl (by decide) (v := .int (iI pn)) rfl dX5_readNumbers_54 ?_
      refine lv_iconst (v := iI 1) Ex Eb dX5_readNumbers_57 rfl ?_
      refine lo_isub E dX5_readNumbers_58 ?_
      refine lo_callV (q0 := 0) (rest := [.ref xc]) E hK hw (kX5_expectNumber l X xc tg a1 a2 a3 en ex dp s1 s2 s3 kt ek eo xt tt tn tp ts tk tv T 0 (pn - 1) (ht) (hT) (by omega) (by omega) (by omega) (by omega) (by omega) (by omega)) (cwV 2 E.2.2.2.2 gX5_readNumbers_X5_expectNumber rfl rfl rfl (by decide +kernel) ⟨Nat.le_of_ble_eq_true rfl, Nat.le_of_ble_eq_true rfl⟩) rfl rfl [0, 1, 2] rfl (by decide) hl.1 rfl rfl (Nat.le_of_ble_eq_true rfl) dX5_readNumbers_59 ⟨Nat.le_of_ble_eq_true rfl, Nat.le_of_ble_eq_true rfl⟩ (fun v w1 H locs hq hw => ?_)
      obtain ⟨na3, nb4, nk5, ng6, ke7, ko8, z9, q59_0, q59_1, q59_2, rfl, rfl⟩ := hq
      have hw : lo_Wd X ([oX5 xc xt tg en ex dp a1 a2 a3 s1 s2 s3 kt ke7 ko8, oX6 xt tt tn na3 nb4 nk5 ng6, arB X tt 500 (sB T), oX3 tg p0 p1 pn]) A9 s9.heap H locs := hw
      refine W.eq (g2 := F0 m9 62 ls [.int (iI z9), .ref xc]) rfl ?_
      refine lo_put E hK hw huRX5 tyX5 tyX5_ok nmX5 8 hf32 rfl 0 rfl rfl (by decide) rfl rfl rfl rfl (Nat.le_of_ble_eq_true rfl) (ws' := [oX5 xc xt tg en ex dp a1 a2 a3 z9 s2 s3 kt ke7 ko8, oX6 xt tt tn na3 nb4 nk5 ng6, arB X tt 500 (sB T), oX3 tg p0 p1 pn]) rfl dX5_readNumbers_62 (fun H locs hw => ?_)
      refine lv_iload_n Ex Eb dX5_readNumbers_65 rfl (lv_at hl 1 rfl) ?_
      refine lv_bipush (v := iI 6) Ex Eb dX5_readNumbers_66 rfl ?_
      refine lo_icmp_ne (tgt := 86) E dX5_readNumbers_68 (by decide) (by omega) (by omega) (fun c10 => ?_) (fun c10 => ?_)
      · skip
        refine lv_iload_n Ex Eb dX5_readNumbers_86 rfl (lv_at hl 1 rfl) ?_
        refine lv_bipush (v := iI 7) Ex Eb dX5_readNumbers_87 rfl ?_
        refine lo_icmp_ne (tgt := 106) E dX5_readNumbers_89 (by decide) (by omega) (by omega) (fun c11 => ?_) (fun c11 => ?_)
        · exact absurd c11 (by omega)
        · skip
          refine lv_aload_n Ex Eb dX5_readNumbers_92 rfl (lv_at hl 0 rfl) ?_
          refine lv_aload_n Ex Eb dX5_readNumbers_93 rfl (lv_at hl 0 rfl) ?_
          refine lv_iconst (v := iI 1) Ex Eb dX5_readNumbers_94 rfl ?_
          refine lv_bipush (v := iI 60) Ex Eb dX5_readNumbers_95 rfl ?_
          refine lo_callV (q0 := 0) (rest := [.ref xc]) E hK hw (kX5_expectNumber l X xc tg a1 a2 a3 en ex dp z9 s2 s3 kt ke7 ko8 xt tt tn na3 nb4 nk5 ng6 T 1 60 (ht) (hT) (by omega) (by omega) (by omega) (by omega) (by omega) (by omega)) (cwV 2 E.2.2.2.2 gX5_readNumbers_X5_expectNumber rfl rfl rfl (by decide +kernel) ⟨Nat.le_of_ble_eq_true rfl, Nat.le_of_ble_eq_true rfl⟩) rfl rfl [0, 1, 2] rfl (by decide) hl.1 rfl rfl (Nat.le_of_ble_eq_true rfl) dX5_readNumbers_97 ⟨Nat.le_of_ble_eq_true rfl, Nat.le_of_ble_eq_true rfl⟩ (fun v w1 H locs hq hw => ?_)
          obtain ⟨na12, nb13, nk14, ng15, ke16, ko17, z18, q97_0, q97_1, q97_2, rfl, rfl⟩ := hq
          have hw : lo_Wd X ([oX5 xc xt tg en ex dp a1 a2 a3 z9 s2 s3 kt ke16 ko17, oX6 xt tt tn na12 nb13 nk14 ng15, arB X tt 500 (sB T), oX3 tg p0 p1 pn]) A9 s9.heap H locs := hw
          refine W.eq (g2 := F0 m9 100 ls [.int (iI z18), .ref xc]) rfl ?_
          refine lo_put E hK hw huRX5 tyX5 tyX5_ok nmX5 9 hf35 rfl 0 rfl rfl (by decide) rfl rfl rfl rfl (Nat.le_of_ble_eq_true rfl) (ws' := [oX5 xc xt tg en ex dp a1 a2 a3 z9 z18 s3 kt ke16 ko17, oX6 xt tt tn na12 nb13 nk14 ng15, arB X tt 500 (sB T), oX3 tg p0 p1 pn]) rfl dX5_readNumbers_100 (fun H locs hw => ?_)
          refine lv_goto (tgt := 127) Ex Eb dX5_readNumbers_103 (by decide) ?_
          refine lv_aload_n Ex Eb dX5_readNumbers_127 rfl (lv_at hl 0 rfl) ?_
          refine lv_bipush (v := iI 59) Ex Eb dX5_readNumbers_128 rfl ?_
          refine lo_callV (q0 := 0) (rest := []) E hK hw (kX5_expectSign l X xc tg a1 a2 a3 en ex dp z9 z18 s3 kt ke16 ko17 xt tt tn na12 nb13 nk14 ng15 T 59 (ht) (hT) (by omega) (by omega) (by omega) (by omega) (by omega)) (cwV 1 E.2.2.2.2 gX5_readNumbers_X5_expectSign rfl rfl rfl (by decide +kernel) ⟨Nat.le_of_ble_eq_true rfl, Nat.le_of_ble_eq_true rfl⟩) rfl rfl [0, 1, 2] rfl (by decide) hl.1 rfl rfl (Nat.le_of_ble_eq_true rfl) dX5_readNumbers_130 ⟨Nat.le_of_ble_eq_true rfl, Nat.le_of_ble_eq_true rfl⟩ (fun v w1 H locs hq hw => ?_)
          obtain ⟨na19, nb20, nk21, ng22, ke23, ko24, q130_0, q130_1, q130_2, rfl, rfl⟩ := hq
          have hw : lo_Wd X ([oX5 xc xt tg en ex dp a1 a2 a3 z9 z18 s3 kt ke23 ko24, oX6 xt tt tn na19 nb20 nk21 ng22, arB X tt 500 (sB T), oX3 tg p0 p1 pn]) A9 s9.heap H locs := hw
          refine W.eq (g2 := F0 m9 133 ls []) rfl ?_
          exact lo_vret E hRt hLk hK hAe hw dX5_readNumbers_133 rfl ⟨na19, nb20, nk21, ng22, ke23, ko24, z9, z18, (⟨_, _, _, _, _, _, _, _, _, _, _, _, ⟨q59_0, q59_2⟩, ⟨q97_0, q97_2⟩, ⟨q130_0, q130_2⟩⟩), (by omega), rfl, rfl⟩
      · exact absurd c10 (by omega)
  · exact absurd c1 (by omega)
set_option maxHeartbeats 4000000 in
set_option maxRecDepth 100000 in
theorem kX5_readNumbers_4 (l : Launch) (X : KX) (kS : Nat → Nat) (xc tg a1 a2 a3 : Nat) (en ex dp s1 s2 s3 kt ek eo : Int) (xt tt : Nat) (tn tp ts tk tv : Int) (T : Nat → Int) (p0 p1 : Nat) (pn : Int) (ht : 0 ≤ tn ∧ tn ≤ 500) (hT : ∀ k : Nat, 0 ≤ T k ∧ T k ≤ 255) (hp : 0 ≤ ts ∧ ts ≤ tp ∧ tp ≤ tn) (hk : 0 ≤ tk ∧ tk ≤ 4) (hv : 0 ≤ tv ∧ tv ≤ 9999999) (he : 0 ≤ ek ∧ ek ≤ 9) (hpn : 0 ≤ pn ∧ pn ≤ 6) : CE l X kS yX5_readNumbers wsX5_readNumbers ({ frames := 6, cells := 0, slots := 0, locals := 248 }) [.ref xc, .int (iI 4)] ([oX5 xc xt tg en ex dp a1 a2 a3 s1 s2 s3 kt ek eo, oX6 xt tt tn tp ts tk tv, arB X tt 500 (sB T), oX3 tg p0 p1 pn]) (fun v9 w9 => ∃ na : Int, ∃ nb : Int, ∃ nk : Int, ∃ ng : Int, ∃ ke : Int, ∃ ko : Int, ∃ z1 : Int, ∃ z2 : Int, ∃ kq : Int, (∃ g1 g2 g3 g4 g5 g6 h1 h2 h3 h4 h5 h6 : Int, NUMS T tn tp ts tk tv ek eo g1 g2 g3 g4 g5 g6 0 (pn - 1) z1 ∧ NUMS T tn g1 g2 g3 g4 g5 g6 h1 h2 h3 h4 h5 h6 1 9999999 z2 ∧ KEPS T tn h1 h2 h3 h4 h5 h6 kt na nb nk ng ke ko kq) ∧ ((0 ≤ nb ∧ nb ≤ na ∧ na ≤ tn) ∧ (0 ≤ nk ∧ nk ≤ 4) ∧ (0 ≤ ng ∧ ng ≤ 9999999) ∧ 0 ≤ ke ∧ ke ≤ 9) ∧ v9 = none ∧ w9 = [oX5 xc xt tg en ex dp a1 a2 a3 z1 z2 s3 kq ke ko, oX6 xt tt tn na nb nk ng, arB X tt 500 (sB T), oX3 tg p0 p1 pn]) 0 0 := by
  refine lo_enterE (cc := cX5_readNumbers) (maxL := 2) (ret := none) (lv := [(0, .ref xc), (1, .int (iI 4))]) (by decide) rfl rfl (Nat.le_of_ble_eq_true rfl) ?_
  intro p9 e9 s9 m9 bl9 me9 c9 A9 ls hAe E hRt hLk hK hl hw hV
  have Ex := E.1
  have Eb := E.2.1
  have huRX5 : ∀ w ∈ u_ws RX5 TX5 14, w ∈ wsX5_readNumbers := by decide +kernel
  have hf59 : (Cond.fieldLink RX5 59 "LoanSchedule$Script" "target" "LLoanSchedule$Plan;").before _ s9 = true := E.2.2.2.2 _ (List.mem_of_getElem? (i := 5) rfl)
  have huRX3 : ∀ w ∈ u_ws RX3 TX3 3, w ∈ wsX5_readNumbers := by decide +kernel
  have hf148 : (Cond.fieldLink RX5 148 "LoanSchedule$Plan" "count" "I").before _ s9 = true := E.2.2.2.2 _ (List.mem_of_getElem? (i := 6) rfl)
  have hf32 : (Cond.fieldLink RX5 32 "LoanSchedule$Script" "first" "I").before _ s9 = true := E.2.2.2.2 _ (List.mem_of_getElem? (i := 2) rfl)
  have hc147 : (Cond.constant RX5 147 (9999999)).before _ s9 = true := E.2.2.2.2 _ (List.mem_of_getElem? (i := 1) rfl)
  have hf35 : (Cond.fieldLink RX5 35 "LoanSchedule$Script" "second" "I").before _ s9 = true := E.2.2.2.2 _ (List.mem_of_getElem? (i := 3) rfl)
  refine lv_iload_n Ex Eb dX5_readNumbers_0 rfl (lv_at hl 1 rfl) ?_
  refine lv_iconst (v := iI 1) Ex Eb dX5_readNumbers_1 rfl ?_
  refine lo_icmp_ne (tgt := 42) E dX5_readNumbers_2 (by decide) (by omega) (by omega) (fun c1 => ?_) (fun c1 => ?_)
  · skip
    refine lv_iload_n Ex Eb dX5_readNumbers_42 rfl (lv_at hl 1 rfl) ?_
    refine lv_iconst (v := iI 3) Ex Eb dX5_readNumbers_43 rfl ?_
    refine lo_icmp_eq (tgt := 65) E dX5_readNumbers_44 (by decide) (by omega) (by omega) (fun c2 => ?_) (fun c2 => ?_)
    · exact absurd c2 (by omega)
    · skip
      refine lv_aload_n Ex Eb dX5_readNumbers_47 rfl (lv_at hl 0 rfl) ?_
      refine lv_aload_n Ex Eb dX5_readNumbers_48 rfl (lv_at hl 0 rfl) ?_
      refine lv_iconst (v := iI 0) Ex Eb dX5_readNumbers_49 rfl ?_
      refine lv_aload_n Ex Eb dX5_readNumbers_50 rfl (lv_at hl 0 rfl) ?_
      refine lo_get E hK hw huRX5 1 hf59 rfl 0 rfl rfl (by decide) (v := .ref tg) rfl dX5_readNumbers_51 ?_
      refine lo_get E hK hw huRX3 2 hf148 rfl 3 rfl rfl (by decide) (v := .int (iI pn)) rfl dX5_readNumbers_54 ?_
      refine lv_iconst (v := iI 1) Ex Eb dX5_readNumbers_57 rfl ?_
      refine lo_isub E dX5_readNumbers_58 ?_
      refine lo_callV (q0 := 0) (rest := [.ref xc]) E hK hw (kX5_expectNumber l X xc tg a1 a2 a3 en ex dp s1 s2 s3 kt ek eo xt tt tn tp ts tk tv T 0 (pn - 1) (ht) (hT) (by omega) (by omega) (by omega) (by omega) (by omega) (by omega)) (cwV 2 E.2.2.2.2 gX5_readNumbers_X5_expectNumber rfl rfl rfl (by decide +kernel) ⟨Nat.le_of_ble_eq_true rfl, Nat.le_of_ble_eq_true rfl⟩) rfl rfl [0, 1, 2] rfl (by decide) hl.1 rfl rfl (Nat.le_of_ble_eq_true rfl) dX5_readNumbers_59 ⟨Nat.le_of_ble_eq_true rfl, Nat.le_of_ble_eq_true rfl⟩ (fun v w1 H locs hq hw => ?_)
      obtain ⟨na3, nb4, nk5, ng6, ke7, ko8, z9, q59_0, q59_1, q59_2, rfl, rfl⟩ := hq
      have hw : lo_Wd X ([oX5 xc xt tg en ex dp a1 a2 a3 s1 s2 s3 kt ke7 ko8, oX6 xt tt tn na3 nb4 nk5 ng6, arB X tt 500 (sB T), oX3 tg p0 p1 pn]) A9 s9.heap H locs := hw
      refine W.eq (g2 := F0 m9 62 ls [.int (iI z9), .ref xc]) rfl ?_
      refine lo_put E hK hw huRX5 tyX5 tyX5_ok nmX5 8 hf32 rfl 0 rfl rfl (by decide) rfl rfl rfl rfl (Nat.le_of_ble_eq_true rfl) (ws' := [oX5 xc xt tg en ex dp a1 a2 a3 z9 s2 s3 kt ke7 ko8, oX6 xt tt tn na3 nb4 nk5 ng6, arB X tt 500 (sB T), oX3 tg p0 p1 pn]) rfl dX5_readNumbers_62 (fun H locs hw => ?_)
      refine lv_iload_n Ex Eb dX5_readNumbers_65 rfl (lv_at hl 1 rfl) ?_
      refine lv_bipush (v := iI 6) Ex Eb dX5_readNumbers_66 rfl ?_
      refine lo_icmp_ne (tgt := 86) E dX5_readNumbers_68 (by decide) (by omega) (by omega) (fun c10 => ?_) (fun c10 => ?_)
      · skip
        refine lv_iload_n Ex Eb dX5_readNumbers_86 rfl (lv_at hl 1 rfl) ?_
        refine lv_bipush (v := iI 7) Ex Eb dX5_readNumbers_87 rfl ?_
        refine lo_icmp_ne (tgt := 106) E dX5_readNumbers_89 (by decide) (by omega) (by omega) (fun c11 => ?_) (fun c11 => ?_)
        · skip
          refine lv_iload_n Ex Eb dX5_readNumbers_106 rfl (lv_at hl 1 rfl) ?_
          refine lv_iconst (v := iI 4) Ex Eb dX5_readNumbers_107 rfl ?_
          refine lo_icmp_ne (tgt := 127) E dX5_readNumbers_108 (by decide) (by omega) (by omega) (fun c12 => ?_) (fun c12 => ?_)
          · exact absurd c12 (by omega)
          · skip
            refine lv_aload_n Ex Eb dX5_readNumbers_111 rfl (lv_at hl 0 rfl) ?_
            refine lv_aload_n Ex Eb dX5_readNumbers_112 rfl (lv_at hl 0 rfl) ?_
            refine lv_iconst (v := iI 1) Ex Eb dX5_readNumbers_113 rfl ?_
            refine lo_ldc (z := 9999999) E hc147 dX5_readNumbers_114 rfl ?_
            refine lo_callV (q0 := 0) (rest := [.ref xc]) E hK hw (kX5_expectNumber l X xc tg a1 a2 a3 en ex dp z9 s2 s3 kt ke7 ko8 xt tt tn na3 nb4 nk5 ng6 T 1 9999999 (ht) (hT) (by omega) (by omega) (by omega) (by omega) (by omega) (by omega)) (cwV 2 E.2.2.2.2 gX5_readNumbers_X5_expectNumber rfl rfl rfl (by decide +kernel) ⟨Nat.le_of_ble_eq_true rfl, Nat.le_of_ble_eq_true rfl⟩) rfl rfl [0, 1, 2] rfl (by decide) hl.1 rfl rfl (Nat.le_of_ble_eq_true rfl) dX5_readNumbers_116 ⟨Nat.le_of_ble_eq_true rfl, Nat.le_of_ble_eq_true rfl⟩ (fun v w1 H locs hq hw => ?_)
            obtain ⟨na13, nb14, nk15, ng16, ke17, ko18, z19, q116_0, q116_1, q116_2, rfl, rfl⟩ := hq
            have hw : lo_Wd X ([oX5 xc xt tg en ex dp a1 a2 a3 z9 s2 s3 kt ke17 ko18, oX6 xt tt tn na13 nb14 nk15 ng16, arB X tt 500 (sB T), oX3 tg p0 p1 pn]) A9 s9.heap H locs := hw
            refine W.eq (g2 := F0 m9 119 ls [.int (iI z19), .ref xc]) rfl ?_
            refine lo_put E hK hw huRX5 tyX5 tyX5_ok nmX5 9 hf35 rfl 0 rfl rfl (by decide) rfl rfl rfl rfl (Nat.le_of_ble_eq_true rfl) (ws' := [oX5 xc xt tg en ex dp a1 a2 a3 z9 z19 s3 kt ke17 ko18, oX6 xt tt tn na13 nb14 nk15 ng16, arB X tt 500 (sB T), oX3 tg p0 p1 pn]) rfl dX5_readNumbers_119 (fun H locs hw => ?_)
            refine lv_aload_n Ex Eb dX5_readNumbers_122 rfl (lv_at hl 0 rfl) ?_
            refine lo_callVE (q0 := 0) (rest := []) E hK hw hV (kX5_readKeep l X kS xc tg a1 a2 a3 en ex dp z9 z19 s3 kt ke17 ko18 xt tt tn na13 nb14 nk15 ng16 T (ht) (hT) (by omega) (by omega) (by omega) (by omega)) (cwV 0 E.2.2.2.2 gX5_readNumbers_X5_readKeep rfl rfl rfl (by decide +kernel) ⟨Nat.le_of_ble_eq_true rfl, Nat.le_of_ble_eq_true rfl⟩) rfl rfl [0, 1, 2] rfl (by decide) hl.1 rfl rfl (Nat.le_of_ble_eq_true rfl) dX5_readNumbers_123 ⟨Nat.le_of_ble_eq_true rfl, Nat.le_of_ble_eq_true rfl⟩ (fun v w1 H locs hq hw => ?_)
            obtain ⟨na20, nb21, nk22, ng23, ke24, ko25, kq26, q123_0, q123_1, rfl, rfl⟩ := hq
            have hw : lo_Wd X ([oX5 xc xt tg en ex dp a1 a2 a3 z9 z19 s3 kq26 ke24 ko25, oX6 xt tt tn na20 nb21 nk22 ng23, arB X tt 500 (sB T), oX3 tg p0 p1 pn]) A9 s9.heap H locs := hw
            refine W.eq (g2 := F0 m9 126 ls []) rfl ?_
            exact lo_vret E hRt hLk hK hAe hw dX5_readNumbers_126 rfl ⟨na20, nb21, nk22, ng23, ke24, ko25, z9, z19, kq26, (⟨_, _, _, _, _, _, _, _, _, _, _, _, ⟨q59_0, q59_2⟩, ⟨q116_0, q116_2⟩, q123_0⟩), (by omega), rfl, rfl⟩
        · exact absurd c11 (by omega)
      · exact absurd c10 (by omega)
  · exact absurd c1 (by omega)
