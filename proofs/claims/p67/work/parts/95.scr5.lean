set_option maxHeartbeats 4000000 in
set_option maxRecDepth 100000 in
theorem kX5_readNumbers_3 (l : Launch) (X : KX) (xc tg a1 a2 a3 : Nat) (en ex dp s1 s2 s3 kt ek eo : Int) (xt tt : Nat) (tn tp ts tk tv : Int) (T : Nat → Int) (ht : 0 ≤ tn ∧ tn ≤ 500) (hT : ∀ k : Nat, 0 ≤ T k ∧ T k ≤ 255) (hp : 0 ≤ ts ∧ ts ≤ tp ∧ tp ≤ tn) (hk : 0 ≤ tk ∧ tk ≤ 4) (hv : 0 ≤ tv ∧ tv ≤ 9999999) (he : 0 ≤ ek ∧ ek ≤ 9) : CM l X yX5_readNumbers wsX5_readNumbers ({ frames := 6, cells := 0, slots := 0, locals := 248 }) [.ref xc, .int (iI 3)] ([oX5 xc xt tg en ex dp a1 a2 a3 s1 s2 s3 kt ek eo, oX6 xt tt tn tp ts tk tv, arB X tt 500 (sB T)]) (fun v9 w9 => ∃ na : Int, ∃ nb : Int, ∃ nk : Int, ∃ ng : Int, ∃ ke : Int, ∃ ko : Int, (SIGS T tn tp ts tk tv ek eo na nb nk ng ke ko 59) ∧ ((0 ≤ nb ∧ nb ≤ na ∧ na ≤ tn) ∧ (0 ≤ nk ∧ nk ≤ 4) ∧ (0 ≤ ng ∧ ng ≤ 9999999) ∧ 0 ≤ ke ∧ ke ≤ 9) ∧ v9 = none ∧ w9 = [oX5 xc xt tg en ex dp a1 a2 a3 s1 s2 s3 kt ke ko, oX6 xt tt tn na nb nk ng, arB X tt 500 (sB T)]) 0 0 := by
  refine lo_enter (cc := cX5_readNumbers) (maxL := 2) (ret := none) (lv := [(0, .ref xc), (1, .int (iI 3))]) (by decide) rfl rfl (Nat.le_of_ble_eq_true rfl) ?_
  intro p9 e9 s9 m9 bl9 me9 c9 A9 ls hAe E hRt hLk hK hl hw
  have Ex := E.1
  have Eb := E.2.1
  refine lv_iload_n Ex Eb dX5_readNumbers_0 rfl (lv_at hl 1 rfl) ?_
  refine lv_iconst (v := iI 1) Ex Eb dX5_readNumbers_1 rfl ?_
  refine lo_icmp_ne (tgt := 42) E dX5_readNumbers_2 (by decide) (by omega) (by omega) (fun c1 => ?_) (fun c1 => ?_)
  · skip
    refine lv_iload_n Ex Eb dX5_readNumbers_42 rfl (lv_at hl 1 rfl) ?_
    refine lv_iconst (v := iI 3) Ex Eb dX5_readNumbers_43 rfl ?_
    refine lo_icmp_eq (tgt := 65) E dX5_readNumbers_44 (by decide) (by omega) (by omega) (fun c2 => ?_) (fun c2 => ?_)
    · skip
      refine lv_iload_n Ex Eb dX5_readNumbers_65 rfl (lv_at hl 1 rfl) ?_
      refine lv_bipush (v := iI 6) Ex Eb dX5_readNumbers_66 rfl ?_
      refine lo_icmp_ne (tgt := 86) E dX5_readNumbers_68 (by decide) (by omega) (by omega) (fun c3 => ?_) (fun c3 => ?_)
      · skip
        refine lv_iload_n Ex Eb dX5_readNumbers_86 rfl (lv_at hl 1 rfl) ?_
        refine lv_bipush (v := iI 7) Ex Eb dX5_readNumbers_87 rfl ?_
        refine lo_icmp_ne (tgt := 106) E dX5_readNumbers_89 (by decide) (by omega) (by omega) (fun c4 => ?_) (fun c4 => ?_)
        · skip
          refine lv_iload_n Ex Eb dX5_readNumbers_106 rfl (lv_at hl 1 rfl) ?_
          refine lv_iconst (v := iI 4) Ex Eb dX5_readNumbers_107 rfl ?_
          refine lo_icmp_ne (tgt := 127) E dX5_readNumbers_108 (by decide) (by omega) (by omega) (fun c5 => ?_) (fun c5 => ?_)
          · skip
            refine lv_aload_n Ex Eb dX5_readNumbers_127 rfl (lv_at hl 0 rfl) ?_
            refine lv_bipush (v := iI 59) Ex Eb dX5_readNumbers_128 rfl ?_
            refine lo_callV (q0 := 0) (rest := []) E hK hw (kX5_expectSign l X xc tg a1 a2 a3 en ex dp s1 s2 s3 kt ek eo xt tt tn tp ts tk tv T 59 (ht) (hT) (hp) (hk) (hv) (he) (by omega)) (cwV 1 E.2.2.2.2 gX5_readNumbers_X5_expectSign rfl rfl rfl (by decide +kernel) ⟨Nat.le_of_ble_eq_true rfl, Nat.le_of_ble_eq_true rfl⟩) rfl rfl [0, 1, 2] rfl (by decide) hl.1 rfl rfl (Nat.le_of_ble_eq_true rfl) dX5_readNumbers_130 ⟨Nat.le_of_ble_eq_true rfl, Nat.le_of_ble_eq_true rfl⟩ (fun v w1 H locs hq hw => ?_)
            obtain ⟨na6, nb7, nk8, ng9, ke10, ko11, q130_0, q130_1, q130_2, rfl, rfl⟩ := hq
            have hw : lo_Wd X ([oX5 xc xt tg en ex dp a1 a2 a3 s1 s2 s3 kt ke10 ko11, oX6 xt tt tn na6 nb7 nk8 ng9, arB X tt 500 (sB T)]) A9 s9.heap H locs := hw
            refine W.eq (g2 := F0 m9 133 ls []) rfl ?_
            exact lo_vret E hRt hLk hK hAe hw dX5_readNumbers_133 rfl ⟨na6, nb7, nk8, ng9, ke10, ko11, (⟨q130_0, q130_2⟩), (by omega), rfl, rfl⟩
          · exact absurd c5 (by omega)
        · exact absurd c4 (by omega)
      · exact absurd c3 (by omega)
    · exact absurd c2 (by omega)
  · exact absurd c1 (by omega)
set_option maxHeartbeats 4000000 in
set_option maxRecDepth 100000 in
theorem kX5_readNumbers_1 (l : Launch) (X : KX) (xc tg a1 a2 a3 : Nat) (en ex dp s1 s2 s3 kt ek eo : Int) (xt tt : Nat) (tn tp ts tk tv : Int) (T : Nat → Int) (ht : 0 ≤ tn ∧ tn ≤ 500) (hT : ∀ k : Nat, 0 ≤ T k ∧ T k ≤ 255) (hp : 0 ≤ ts ∧ ts ≤ tp ∧ tp ≤ tn) (hk : 0 ≤ tk ∧ tk ≤ 4) (hv : 0 ≤ tv ∧ tv ≤ 9999999) (he : 0 ≤ ek ∧ ek ≤ 9) : CM l X yX5_readNumbers wsX5_readNumbers ({ frames := 6, cells := 0, slots := 0, locals := 248 }) [.ref xc, .int (iI 1)] ([oX5 xc xt tg en ex dp a1 a2 a3 s1 s2 s3 kt ek eo, oX6 xt tt tn tp ts tk tv, arB X tt 500 (sB T)]) (fun v9 w9 => ∃ na : Int, ∃ nb : Int, ∃ nk : Int, ∃ ng : Int, ∃ ke : Int, ∃ ko : Int, ∃ z1 : Int, ∃ z2 : Int, ∃ z3 : Int, (∃ g1 g2 g3 g4 g5 g6 h1 h2 h3 h4 h5 h6 j1 j2 j3 j4 j5 j6 : Int, NUMS T tn tp ts tk tv ek eo g1 g2 g3 g4 g5 g6 1 9999999 z1 ∧ NUMS T tn g1 g2 g3 g4 g5 g6 h1 h2 h3 h4 h5 h6 0 3000 z2 ∧ NUMS T tn h1 h2 h3 h4 h5 h6 j1 j2 j3 j4 j5 j6 1 120 z3 ∧ SIGS T tn j1 j2 j3 j4 j5 j6 na nb nk ng ke ko 59) ∧ ((0 ≤ nb ∧ nb ≤ na ∧ na ≤ tn) ∧ (0 ≤ nk ∧ nk ≤ 4) ∧ (0 ≤ ng ∧ ng ≤ 9999999) ∧ 0 ≤ ke ∧ ke ≤ 9) ∧ v9 = none ∧ w9 = [oX5 xc xt tg en ex dp a1 a2 a3 z1 z2 z3 kt ke ko, oX6 xt tt tn na nb nk ng, arB X tt 500 (sB T)]) 0 0 := by
  refine lo_enter (cc := cX5_readNumbers) (maxL := 2) (ret := none) (lv := [(0, .ref xc), (1, .int (iI 1))]) (by decide) rfl rfl (Nat.le_of_ble_eq_true rfl) ?_
  intro p9 e9 s9 m9 bl9 me9 c9 A9 ls hAe E hRt hLk hK hl hw
  have Ex := E.1
  have Eb := E.2.1
  have hc147 : (Cond.constant RX5 147 (9999999)).before _ s9 = true := E.2.2.2.2 _ (List.mem_of_getElem? (i := 1) rfl)
  have huRX5 : ∀ w ∈ u_ws RX5 TX5 14, w ∈ wsX5_readNumbers := by decide +kernel
  have hf32 : (Cond.fieldLink RX5 32 "LoanSchedule$Script" "first" "I").before _ s9 = true := E.2.2.2.2 _ (List.mem_of_getElem? (i := 2) rfl)
  have hf35 : (Cond.fieldLink RX5 35 "LoanSchedule$Script" "second" "I").before _ s9 = true := E.2.2.2.2 _ (List.mem_of_getElem? (i := 3) rfl)
  have hf38 : (Cond.fieldLink RX5 38 "LoanSchedule$Script" "third" "I").before _ s9 = true := E.2.2.2.2 _ (List.mem_of_getElem? (i := 4) rfl)
  refine lv_iload_n Ex Eb dX5_readNumbers_0 rfl (lv_at hl 1 rfl) ?_
  refine lv_iconst (v := iI 1) Ex Eb dX5_readNumbers_1 rfl ?_
  refine lo_icmp_ne (tgt := 42) E dX5_readNumbers_2 (by decide) (by omega) (by omega) (fun c1 => ?_) (fun c1 => ?_)
  · exact absurd c1 (by omega)
  · skip
    refine lv_aload_n Ex Eb dX5_readNumbers_5 rfl (lv_at hl 0 rfl) ?_
    refine lv_aload_n Ex Eb dX5_readNumbers_6 rfl (lv_at hl 0 rfl) ?_
    refine lv_iconst (v := iI 1) Ex Eb dX5_readNumbers_7 rfl ?_
    refine lo_ldc (z := 9999999) E hc147 dX5_readNumbers_8 rfl ?_
    refine lo_callV (q0 := 0) (rest := [.ref xc]) E hK hw (kX5_expectNumber l X xc tg a1 a2 a3 en ex dp s1 s2 s3 kt ek eo xt tt tn tp ts tk tv T 1 9999999 (ht) (hT) (by omega) (by omega) (by omega) (by omega) (by omega) (by omega)) (cwV 2 E.2.2.2.2 gX5_readNumbers_X5_expectNumber rfl rfl rfl (by decide +kernel) ⟨Nat.le_of_ble_eq_true rfl, Nat.le_of_ble_eq_true rfl⟩) rfl rfl [0, 1, 2] rfl (by decide) hl.1 rfl rfl (Nat.le_of_ble_eq_true rfl) dX5_readNumbers_10 ⟨Nat.le_of_ble_eq_true rfl, Nat.le_of_ble_eq_true rfl⟩ (fun v w1 H locs hq hw => ?_)
    obtain ⟨na2, nb3, nk4, ng5, ke6, ko7, z8, q10_0, q10_1, q10_2, rfl, rfl⟩ := hq
    have hw : lo_Wd X ([oX5 xc xt tg en ex dp a1 a2 a3 s1 s2 s3 kt ke6 ko7, oX6 xt tt tn na2 nb3 nk4 ng5, arB X tt 500 (sB T)]) A9 s9.heap H locs := hw
    refine W.eq (g2 := F0 m9 13 ls [.int (iI z8), .ref xc]) rfl ?_
    refine lo_put E hK hw huRX5 tyX5 tyX5_ok nmX5 8 hf32 rfl 0 rfl rfl (by decide) rfl rfl rfl rfl (Nat.le_of_ble_eq_true rfl) (ws' := [oX5 xc xt tg en ex dp a1 a2 a3 z8 s2 s3 kt ke6 ko7, oX6 xt tt tn na2 nb3 nk4 ng5, arB X tt 500 (sB T)]) rfl dX5_readNumbers_13 (fun H locs hw => ?_)
    refine lv_aload_n Ex Eb dX5_readNumbers_16 rfl (lv_at hl 0 rfl) ?_
    refine lv_aload_n Ex Eb dX5_readNumbers_17 rfl (lv_at hl 0 rfl) ?_
    refine lv_iconst (v := iI 0) Ex Eb dX5_readNumbers_18 rfl ?_
    refine lv_sipush (v := iI 3000) Ex Eb dX5_readNumbers_19 rfl ?_
    refine lo_callV (q0 := 0) (rest := [.ref xc]) E hK hw (kX5_expectNumber l X xc tg a1 a2 a3 en ex dp z8 s2 s3 kt ke6 ko7 xt tt tn na2 nb3 nk4 ng5 T 0 3000 (ht) (hT) (by omega) (by omega) (by omega) (by omega) (by omega) (by omega)) (cwV 2 E.2.2.2.2 gX5_readNumbers_X5_expectNumber rfl rfl rfl (by decide +kernel) ⟨Nat.le_of_ble_eq_true rfl, Nat.le_of_ble_eq_true rfl⟩) rfl rfl [0, 1, 2] rfl (by decide) hl.1 rfl rfl (Nat.le_of_ble_eq_true rfl) dX5_readNumbers_22 ⟨Nat.le_of_ble_eq_true rfl, Nat.le_of_ble_eq_true rfl⟩ (fun v w1 H locs hq hw => ?_)
    obtain ⟨na9, nb10, nk11, ng12, ke13, ko14, z15, q22_0, q22_1, q22_2, rfl, rfl⟩ := hq
    have hw : lo_Wd X ([oX5 xc xt tg en ex dp a1 a2 a3 z8 s2 s3 kt ke13 ko14, oX6 xt tt tn na9 nb10 nk11 ng12, arB X tt 500 (sB T)]) A9 s9.heap H locs := hw
    refine W.eq (g2 := F0 m9 25 ls [.int (iI z15), .ref xc]) rfl ?_
    refine lo_put E hK hw huRX5 tyX5 tyX5_ok nmX5 9 hf35 rfl 0 rfl rfl (by decide) rfl rfl rfl rfl (Nat.le_of_ble_eq_true rfl) (ws' := [oX5 xc xt tg en ex dp a1 a2 a3 z8 z15 s3 kt ke13 ko14, oX6 xt tt tn na9 nb10 nk11 ng12, arB X tt 500 (sB T)]) rfl dX5_readNumbers_25 (fun H locs hw => ?_)
    refine lv_aload_n Ex Eb dX5_readNumbers_28 rfl (lv_at hl 0 rfl) ?_
    refine lv_aload_n Ex Eb dX5_readNumbers_29 rfl (lv_at hl 0 rfl) ?_
    refine lv_iconst (v := iI 1) Ex Eb dX5_readNumbers_30 rfl ?_
    refine lv_bipush (v := iI 120) Ex Eb dX5_readNumbers_31 rfl ?_
    refine lo_callV (q0 := 0) (rest := [.ref xc]) E hK hw (kX5_expectNumber l X xc tg a1 a2 a3 en ex dp z8 z15 s3 kt ke13 ko14 xt tt tn na9 nb10 nk11 ng12 T 1 120 (ht) (hT) (by omega) (by omega) (by omega) (by omega) (by omega) (by omega)) (cwV 2 E.2.2.2.2 gX5_readNumbers_X5_expectNumber rfl rfl rfl (by decide +kernel) ⟨Nat.le_of_ble_eq_true rfl, Nat.le_of_ble_eq_true rfl⟩) rfl rfl [0, 1, 2] rfl (by decide) hl.1 rfl rfl (Nat.le_of_ble_eq_true rfl) dX5_readNumbers_33 ⟨Nat.le_of_ble_eq_true rfl, Nat.le_of_ble_eq_true rfl⟩ (fun v w1 H locs hq hw => ?_)
    obtain ⟨na16, nb17, nk18, ng19, ke20, ko21, z22, q33_0, q33_1, q33_2, rfl, rfl⟩ := hq
    have hw : lo_Wd X ([oX5 xc xt tg en ex dp a1 a2 a3 z8 z15 s3 kt ke20 ko21, oX6 xt tt tn na16 nb17 nk18 ng19, arB X tt 500 (sB T)]) A9 s9.heap H locs := hw
    refine W.eq (g2 := F0 m9 36 ls [.int (iI z22), .ref xc]) rfl ?_
    refine lo_put E hK hw huRX5 tyX5 tyX5_ok nmX5 10 hf38 rfl 0 rfl rfl (by decide) rfl rfl rfl rfl (Nat.le_of_ble_eq_true rfl) (ws' := [oX5 xc xt tg en ex dp a1 a2 a3 z8 z15 z22 kt ke20 ko21, oX6 xt tt tn na16 nb17 nk18 ng19, arB X tt 500 (sB T)]) rfl dX5_readNumbers_36 (fun H locs hw => ?_)
    refine lv_goto (tgt := 65) Ex Eb dX5_readNumbers_39 (by decide) ?_
    refine lv_iload_n Ex Eb dX5_readNumbers_65 rfl (lv_at hl 1 rfl) ?_
    refine lv_bipush (v := iI 6) Ex Eb dX5_readNumbers_66 rfl ?_
    refine lo_icmp_ne (tgt := 86) E dX5_readNumbers_68 (by decide) (by omega) (by omega) (fun c23 => ?_) (fun c23 => ?_)
    · skip
      refine lv_iload_n Ex Eb dX5_readNumbers_86 rfl (lv_at hl 1 rfl) ?_
      refine lv_bipush (v := iI 7) Ex Eb dX5_readNumbers_87 rfl ?_
      refine lo_icmp_ne (tgt := 106) E dX5_readNumbers_89 (by decide) (by omega) (by omega) (fun c24 => ?_) (fun c24 => ?_)
      · skip
        refine lv_iload_n Ex Eb dX5_readNumbers_106 rfl (lv_at hl 1 rfl) ?_
        refine lv_iconst (v := iI 4) Ex Eb dX5_readNumbers_107 rfl ?_
        refine lo_icmp_ne (tgt := 127) E dX5_readNumbers_108 (by decide) (by omega) (by omega) (fun c25 => ?_) (fun c25 => ?_)
        · skip
          refine lv_aload_n Ex Eb dX5_readNumbers_127 rfl (lv_at hl 0 rfl) ?_
          refine lv_bipush (v := iI 59) Ex Eb dX5_readNumbers_128 rfl ?_
          refine lo_callV (q0 := 0) (rest := []) E hK hw (kX5_expectSign l X xc tg a1 a2 a3 en ex dp z8 z15 z22 kt ke20 ko21 xt tt tn na16 nb17 nk18 ng19 T 59 (ht) (hT) (by omega) (by omega) (by omega) (by omega) (by omega)) (cwV 1 E.2.2.2.2 gX5_readNumbers_X5_expectSign rfl rfl rfl (by decide +kernel) ⟨Nat.le_of_ble_eq_true rfl, Nat.le_of_ble_eq_true rfl⟩) rfl rfl [0, 1, 2] rfl (by decide) hl.1 rfl rfl (Nat.le_of_ble_eq_true rfl) dX5_readNumbers_130 ⟨Nat.le_of_ble_eq_true rfl, Nat.le_of_ble_eq_true rfl⟩ (fun v w1 H locs hq hw => ?_)
          obtain ⟨na26, nb27, nk28, ng29, ke30, ko31, q130_0, q130_1, q130_2, rfl, rfl⟩ := hq
          have hw : lo_Wd X ([oX5 xc xt tg en ex dp a1 a2 a3 z8 z15 z22 kt ke30 ko31, oX6 xt tt tn na26 nb27 nk28 ng29, arB X tt 500 (sB T)]) A9 s9.heap H locs := hw
          refine W.eq (g2 := F0 m9 133 ls []) rfl ?_
          exact lo_vret E hRt hLk hK hAe hw dX5_readNumbers_133 rfl ⟨na26, nb27, nk28, ng29, ke30, ko31, z8, z15, z22, (⟨_, _, _, _, _, _, _, _, _, _, _, _, _, _, _, _, _, _, ⟨q10_0, q10_2⟩, ⟨q22_0, q22_2⟩, ⟨q33_0, q33_2⟩, ⟨q130_0, q130_2⟩⟩), (by omega), rfl, rfl⟩
        · exact absurd c25 (by omega)
      · exact absurd c24 (by omega)
    · exact absurd c23 (by omega)
