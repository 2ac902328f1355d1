set_option maxHeartbeats 2000000 in
set_option maxRecDepth 100000 in
theorem kX8_repeatCommand_3 (l : Launch) (X : KX) (kS : Nat → Nat) (d : Nat → Nat) (M w T : Nat → Int) (p : Int) (ht : 0 ≤ M 9 ∧ M 9 ≤ 500) (hT : ∀ k : Nat, 0 ≤ T k ∧ T k ≤ 255) (hWI : WI w) (hTR : TR T (M 9) p (M 20) (M 21) (M 22) (M 23)) (h24 : M 24 = 0) (hrg : (0 ≤ M 21 ∧ M 21 ≤ M 20 ∧ M 20 ≤ M 9) ∧ (0 ≤ M 22 ∧ M 22 ≤ 6) ∧ 0 ≤ M 23 ∧ M 23 ≤ 9999999) (hp : 0 ≤ p ∧ p ≤ M 9) (hD : M 18 = 3) (hx : 0 ≤ M 19 ∧ M 19 ≤ 300) (hc : cw T (M 9) p = 8) : CE l X kS yX8_repeatCommand wsX8_repeatCommand ({ frames := 4, cells := 0, slots := 0, locals := 84 }) [.ref (d 0)] ([oX8 (d 0) (M 0) (d 1) (d 2) (M 3) (d 3) (M 5) (d 4) (d 5) (d 6) (M 9) (d 7) (M 11) (M 12) (M 13) (M 14) (M 15) (M 16) (M 17) (M 18) (M 19) (M 20) (M 21) (M 22) (M 23) (M 24) (M 25) (M 26) (M 27) (M 28), arI X (d 1) 122 w, arI X (d 6) 500 T]) (fun v9 w9 => ∃ N : Nat → Int, ∃ u : Nat → Int, (BDY T (M 9) (M 18) p (M 19) w (N 20) (N 19) u (N 24) (N 25)) ∧ (KPC M N) ∧ (WI u) ∧ ((0 ≤ N 20 ∧ N 20 ≤ M 9) ∧ (0 ≤ N 23 ∧ N 23 ≤ 9999999) ∧ (0 ≤ N 24 ∧ N 24 ≤ 9) ∧ (0 ≤ N 22 ∧ N 22 ≤ 6) ∧ 0 ≤ N 19 ∧ N 19 ≤ 301) ∧ (N 24 ≠ 0 ∨ p < N 20) ∧ (EO (N 24) (N 25) (M 25)) ∧ v9 = none ∧ w9 = [oX8 (d 0) (N 0) (d 1) (d 2) (N 3) (d 3) (N 5) (d 4) (d 5) (d 6) (N 9) (d 7) (N 11) (N 12) (N 13) (N 14) (N 15) (N 16) (N 17) (N 18) (N 19) (N 20) (N 21) (N 22) (N 23) (N 24) (N 25) (N 26) (N 27) (N 28), arI X (d 1) 122 u, arI X (d 6) 500 T]) 0 0 := by
  refine lo_enterE (cc := cX8_repeatCommand) (maxL := 4) (ret := none) (lv := [(0, .ref (d 0))]) (by decide) rfl rfl (Nat.le_of_ble_eq_true rfl) ?_
  intro p9 e9 s9 m9 bl9 me9 c9 A9 ls hAe E hRt hLk hK hl hw hV
  have Ex := E.1
  have Eb := E.2.1
  have huRX8 : ∀ w ∈ u_ws RX8 TX8 29, w ∈ wsX8_repeatCommand := by decide +kernel
  have hf248 : (Cond.fieldLink RX8 248 "LoanScheduleModel" "depth" "I").before _ s9 = true := E.2.2.2.2 _ (List.mem_of_getElem? (i := 1) rfl)
  have hf205 : (Cond.fieldLink RX8 205 "LoanScheduleModel" "kind" "I").before _ s9 = true := E.2.2.2.2 _ (List.mem_of_getElem? (i := 2) rfl)
  have hf199 : (Cond.fieldLink RX8 199 "LoanScheduleModel" "at" "I").before _ s9 = true := E.2.2.2.2 _ (List.mem_of_getElem? (i := 3) rfl)
  obtain ⟨⟨hn0, hn1⟩, ⟨hb0, hb1⟩, hL⟩ := id hWI
  have hb9 := hTR.2.1
  refine lv_aload_n Ex Eb dX8_repeatCommand_0 rfl (lv_at hl 0 rfl) ?_
  refine lo_get E hK hw huRX8 18 hf248 rfl 0 rfl rfl (by decide) (v := .int (iI (M 18))) rfl dX8_repeatCommand_1 ?_
  refine lv_iconst (v := iI 3) Ex Eb dX8_repeatCommand_4 rfl ?_
  refine lo_icmp_ne (tgt := 13) E dX8_repeatCommand_5 (by decide) (by omega) (by omega) (fun c1 => ?_) (fun c1 => ?_)
  · exact absurd c1 (by omega)
  · skip
    refine lv_aload_n Ex Eb dX8_repeatCommand_8 rfl (lv_at hl 0 rfl) ?_
    refine lv_iconst (v := iI 4) Ex Eb dX8_repeatCommand_9 rfl ?_
    refine lo_callV (q0 := 0) (rest := []) E hK hw (kX8_fail l X d M 4 (by omega)) (cwV 1 E.2.2.2.2 gX8_repeatCommand_X8_fail rfl rfl rfl (by decide +kernel) ⟨Nat.le_of_ble_eq_true rfl, Nat.le_of_ble_eq_true rfl⟩) rfl rfl [0] rfl (by decide) hl.1 rfl rfl (Nat.le_of_ble_eq_true rfl) dX8_repeatCommand_10 ⟨Nat.le_of_ble_eq_true rfl, Nat.le_of_ble_eq_true rfl⟩ (fun v w1 H locs hq hw => ?_)
    obtain ⟨e0, o0, q10_0, rfl, rfl⟩ := hq
    have hw : lo_Wd X ([oX8 (d 0) (M 0) (d 1) (d 2) (M 3) (d 3) (M 5) (d 4) (d 5) (d 6) (M 9) (d 7) (M 11) (M 12) (M 13) (M 14) (M 15) (M 16) (M 17) (M 18) (M 19) (M 20) (M 21) (M 22) (M 23) e0 o0 (M 26) (M 27) (M 28), arI X (d 1) 122 w, arI X (d 6) 500 T]) A9 s9.heap H locs := hw
    refine W.eq (g2 := F0 m9 13 ls []) rfl ?_
    refine lv_aload_n Ex Eb dX8_repeatCommand_13 rfl (lv_at hl 0 rfl) ?_
    refine lo_callV (q0 := 0) (rest := []) E hK hw (kX8_advance l X d (uI (uI M 24 e0) 25 o0) T (show 0 ≤ (M 9) ∧ (M 9) ≤ 500 by omega) (by omega) (show 0 ≤ (M 20) ∧ (M 20) ≤ (M 9) by omega) (show 0 ≤ (M 23) ∧ (M 23) ≤ 9999999 by omega) (show i32 (e0) by omega)) (cwV 0 E.2.2.2.2 gX8_repeatCommand_X8_advance rfl rfl rfl (by decide +kernel) ⟨Nat.le_of_ble_eq_true rfl, Nat.le_of_ble_eq_true rfl⟩) rfl rfl [0, 2] rfl (by decide) hl.1 rfl rfl (Nat.le_of_ble_eq_true rfl) dX8_repeatCommand_14 ⟨Nat.le_of_ble_eq_true rfl, Nat.le_of_ble_eq_true rfl⟩ (fun v w1 H locs hq hw => ?_)
    obtain ⟨b1, a1, k1, g1, q14_0, q14_1, rfl, rfl⟩ := hq
    change (e0 = 0 ∧ b1 = spE pSp T ((M 9)) ((M 20)) ∧ SCN T ((M 9)) b1 ((M 23)) a1 k1 g1) ∨ (e0 ≠ 0 ∧ a1 = (M 20) ∧ b1 = (M 21) ∧ k1 = (M 22) ∧ g1 = (M 23)) at q14_0
    change 0 ≤ a1 ∧ a1 ≤ (M 9) ∧ 0 ≤ g1 ∧ g1 ≤ 9999999 at q14_1
    have hw : lo_Wd X ([oX8 (d 0) (M 0) (d 1) (d 2) (M 3) (d 3) (M 5) (d 4) (d 5) (d 6) (M 9) (d 7) (M 11) (M 12) (M 13) (M 14) (M 15) (M 16) (M 17) (M 18) (M 19) a1 b1 k1 g1 e0 o0 (M 26) (M 27) (M 28), arI X (d 1) 122 w, arI X (d 6) 500 T]) A9 s9.heap H locs := hw
    refine W.eq (g2 := F0 m9 17 ls []) rfl ?_
    refine lv_aload_n Ex Eb dX8_repeatCommand_17 rfl (lv_at hl 0 rfl) ?_
    refine lv_iconst (v := iI 1) Ex Eb dX8_repeatCommand_18 rfl ?_
    refine lv_bipush (v := iI 24) Ex Eb dX8_repeatCommand_19 rfl ?_
    refine lo_callV (q0 := 0) (rest := []) E hK hw (kX8_number l X d (uI (uI (uI (uI (uI (uI M 20 a1) 21 b1) 22 k1) 23 g1) 24 e0) 25 o0) T 1 24 (show 0 ≤ (M 9) ∧ (M 9) ≤ 500 by omega) (by omega) (show 0 ≤ a1 ∧ a1 ≤ (M 9) by omega) (show 0 ≤ g1 ∧ g1 ≤ 9999999 by omega) (show i32 (e0) by omega) (show i32 (k1) by omega) (by omega) (by omega)) (cwV 2 E.2.2.2.2 gX8_repeatCommand_X8_number rfl rfl rfl (by decide +kernel) ⟨Nat.le_of_ble_eq_true rfl, Nat.le_of_ble_eq_true rfl⟩) rfl rfl [0, 2] rfl (by decide) hl.1 rfl rfl (Nat.le_of_ble_eq_true rfl) dX8_repeatCommand_21 ⟨Nat.le_of_ble_eq_true rfl, Nat.le_of_ble_eq_true rfl⟩ (fun v w1 H locs hq hw => ?_)
    obtain ⟨b2, a2, k2, g2, e2, o2, ti, q21_0, q21_1, rfl, rfl⟩ := hq
    change (e0 = 0 ∧ (k1 = 2 ∧ 1 ≤ g1 ∧ g1 ≤ 24) ∧ e2 = 0 ∧ o2 = o0 ∧ ti = g1 ∧ b2 = spE pSp T ((M 9)) (a1) ∧ SCN T ((M 9)) b2 (g1) a2 k2 g2) ∨ (e0 = 0 ∧ ((k1 ≠ 2 ∧ e2 = 1) ∨ (k1 = 2 ∧ ¬ (1 ≤ g1 ∧ g1 ≤ 24) ∧ e2 = 2)) ∧ o2 = b1 ∧ ti = 0 ∧ a2 = a1 ∧ b2 = b1 ∧ k2 = k1 ∧ g2 = g1) ∨ (e0 ≠ 0 ∧ e2 = e0 ∧ o2 = o0 ∧ ti = 0 ∧ a2 = a1 ∧ b2 = b1 ∧ k2 = k1 ∧ g2 = g1) at q21_0
    change 0 ≤ a2 ∧ a2 ≤ (M 9) ∧ 0 ≤ g2 ∧ g2 ≤ 9999999 at q21_1
    have hw : lo_Wd X ([oX8 (d 0) (M 0) (d 1) (d 2) (M 3) (d 3) (M 5) (d 4) (d 5) (d 6) (M 9) (d 7) (M 11) (M 12) (M 13) (M 14) (M 15) (M 16) (M 17) (M 18) (M 19) a2 b2 k2 g2 e2 o2 (M 26) (M 27) (M 28), arI X (d 1) 122 w, arI X (d 6) 500 T]) A9 s9.heap H locs := hw
    refine W.eq (g2 := F0 m9 24 ls [.int (iI ti)]) rfl ?_
    refine lv_istore_n (lv' := [(1, .int (iI ti)), (0, .ref (d 0))]) Ex Eb dX8_repeatCommand_24 rfl hl (by decide) rfl (fun ls hl => ?_)
    refine lv_aload_n Ex Eb dX8_repeatCommand_25 rfl (lv_at hl 1 rfl) ?_
    refine lo_get E hK hw huRX8 22 hf205 rfl 0 rfl rfl (by decide) (v := .int (iI k2)) rfl dX8_repeatCommand_26 ?_
    refine lv_iconst (v := iI 5) Ex Eb dX8_repeatCommand_29 rfl ?_
    refine lo_icmp_eq (tgt := 38) E dX8_repeatCommand_30 (by decide) (by omega) (by omega) (fun c2 => ?_) (fun c2 => ?_)
    · skip
      refine lv_aload_n Ex Eb dX8_repeatCommand_38 rfl (lv_at hl 1 rfl) ?_
      refine lo_get E hK hw huRX8 20 hf199 rfl 0 rfl rfl (by decide) (v := .int (iI a2)) rfl dX8_repeatCommand_39 ?_
      refine lv_istore_n (lv' := [(2, .int (iI a2)), (1, .int (iI ti)), (0, .ref (d 0))]) Ex Eb dX8_repeatCommand_42 rfl hl (by decide) rfl (fun ls hl => ?_)
      refine lv_aload_n Ex Eb dX8_repeatCommand_43 rfl (lv_at hl 2 rfl) ?_
      refine lv_dup Ex Eb dX8_repeatCommand_44 rfl ?_
      refine lo_get E hK hw huRX8 18 hf248 rfl 0 rfl rfl (by decide) (v := .int (iI (M 18))) rfl dX8_repeatCommand_45 ?_
      refine lv_iconst (v := iI 1) Ex Eb dX8_repeatCommand_48 rfl ?_
      refine lo_iadd E dX8_repeatCommand_49 ?_
      refine lo_put E hK hw huRX8 tyX8 tyX8_ok nmX8 18 hf248 rfl 0 rfl rfl (by decide) rfl rfl rfl rfl (Nat.le_of_ble_eq_true rfl) (ws' := [oX8 (d 0) (M 0) (d 1) (d 2) (M 3) (d 3) (M 5) (d 4) (d 5) (d 6) (M 9) (d 7) (M 11) (M 12) (M 13) (M 14) (M 15) (M 16) (M 17) ((M 18) + 1) (M 19) a2 b2 k2 g2 e2 o2 (M 26) (M 27) (M 28), arI X (d 1) 122 w, arI X (d 6) 500 T]) rfl dX8_repeatCommand_50 (fun H locs hw => ?_)
      refine lv_iconst (v := iI 0) Ex Eb dX8_repeatCommand_53 rfl ?_
      refine lv_istore_n (lv' := [(3, .int (iI 0)), (2, .int (iI a2)), (1, .int (iI ti)), (0, .ref (d 0))]) Ex Eb dX8_repeatCommand_54 rfl hl (by decide) rfl (fun ls hl => ?_)
      refine lv_iload_n Ex Eb dX8_repeatCommand_55 rfl (lv_at hl 0 rfl) ?_
      refine lv_iload_n Ex Eb dX8_repeatCommand_56 rfl (lv_at hl 2 rfl) ?_
      refine lo_icmp_ge (tgt := 109) E dX8_repeatCommand_57 (by decide) (by omega) (by omega) (fun c3 => ?_) (fun c3 => ?_)
      · skip
        refine lv_aload_n Ex Eb dX8_repeatCommand_109 rfl (lv_at hl 3 rfl) ?_
        refine lv_dup Ex Eb dX8_repeatCommand_110 rfl ?_
        refine lo_get E hK hw huRX8 18 hf248 rfl 0 rfl rfl (by decide) (v := .int (iI ((M 18) + 1))) rfl dX8_repeatCommand_111 ?_
        refine lv_iconst (v := iI 1) Ex Eb dX8_repeatCommand_114 rfl ?_
        refine lo_isub E dX8_repeatCommand_115 ?_
        refine lo_put E hK hw huRX8 tyX8 tyX8_ok nmX8 18 hf248 rfl 0 rfl rfl (by decide) rfl rfl rfl rfl (Nat.le_of_ble_eq_true rfl) (ws' := [oX8 (d 0) (M 0) (d 1) (d 2) (M 3) (d 3) (M 5) (d 4) (d 5) (d 6) (M 9) (d 7) (M 11) (M 12) (M 13) (M 14) (M 15) (M 16) (M 17) (((M 18) + 1) - 1) (M 19) a2 b2 k2 g2 e2 o2 (M 26) (M 27) (M 28), arI X (d 1) 122 w, arI X (d 6) 500 T]) rfl dX8_repeatCommand_116 (fun H locs hw => ?_)
        refine lv_aload_n Ex Eb dX8_repeatCommand_119 rfl (lv_at hl 3 rfl) ?_
        refine lo_callV (q0 := 0) (rest := []) E hK hw (kX8_advance l X d (uI (uI (uI (uI (uI (uI (uI M 18 (((M 18) + 1) - 1)) 20 a2) 21 b2) 22 k2) 23 g2) 24 e2) 25 o2) T (show 0 ≤ (M 9) ∧ (M 9) ≤ 500 by omega) (by omega) (show 0 ≤ a2 ∧ a2 ≤ (M 9) by omega) (show 0 ≤ g2 ∧ g2 ≤ 9999999 by omega) (show i32 (e2) by omega)) (cwV 0 E.2.2.2.2 gX8_repeatCommand_X8_advance rfl rfl rfl (by decide +kernel) ⟨Nat.le_of_ble_eq_true rfl, Nat.le_of_ble_eq_true rfl⟩) rfl rfl [0, 2] rfl (by decide) hl.1 rfl rfl (Nat.le_of_ble_eq_true rfl) dX8_repeatCommand_120 ⟨Nat.le_of_ble_eq_true rfl, Nat.le_of_ble_eq_true rfl⟩ (fun v w1 H locs hq hw => ?_)
        obtain ⟨b4, a4, k4, g4, q120_0, q120_1, rfl, rfl⟩ := hq
        change (e2 = 0 ∧ b4 = spE pSp T ((M 9)) (a2) ∧ SCN T ((M 9)) b4 (g2) a4 k4 g4) ∨ (e2 ≠ 0 ∧ a4 = a2 ∧ b4 = b2 ∧ k4 = k2 ∧ g4 = g2) at q120_0
        change 0 ≤ a4 ∧ a4 ≤ (M 9) ∧ 0 ≤ g4 ∧ g4 ≤ 9999999 at q120_1
        have hw : lo_Wd X ([oX8 (d 0) (M 0) (d 1) (d 2) (M 3) (d 3) (M 5) (d 4) (d 5) (d 6) (M 9) (d 7) (M 11) (M 12) (M 13) (M 14) (M 15) (M 16) (M 17) (((M 18) + 1) - 1) (M 19) a4 b4 k4 g4 e2 o2 (M 26) (M 27) (M 28), arI X (d 1) 122 w, arI X (d 6) 500 T]) A9 s9.heap H locs := hw
        refine W.eq (g2 := F0 m9 123 ls []) rfl ?_
        refine lv_aload_n Ex Eb dX8_repeatCommand_123 rfl (lv_at hl 3 rfl) ?_
        refine lv_iconst (v := iI 1) Ex Eb dX8_repeatCommand_124 rfl ?_
        refine lo_callV (q0 := 0) (rest := []) E hK hw (kX8_ends l X d (uI (uI (uI (uI (uI (uI (uI M 18 (((M 18) + 1) - 1)) 20 a4) 21 b4) 22 k4) 23 g4) 24 e2) 25 o2) 1 (show i32 (e2) by omega) (show i32 (k4) by omega) (by omega)) (cwV 1 E.2.2.2.2 gX8_repeatCommand_X8_ends rfl rfl rfl (by decide +kernel) ⟨Nat.le_of_ble_eq_true rfl, Nat.le_of_ble_eq_true rfl⟩) rfl rfl [0] rfl (by decide) hl.1 rfl rfl (Nat.le_of_ble_eq_true rfl) dX8_repeatCommand_125 ⟨Nat.le_of_ble_eq_true rfl, Nat.le_of_ble_eq_true rfl⟩ (fun v w1 H locs hq hw => ?_)
        obtain ⟨ek, eo, zz, q125_0, rfl, rfl⟩ := hq
        change (e2 ≠ 0 ∧ ek = e2 ∧ eo = o2 ∧ zz = 0) ∨ (e2 = 0 ∧ k4 ≠ 1 ∧ ek = 1 ∧ eo = b4 ∧ zz = 0) ∨ (e2 = 0 ∧ k4 = 1 ∧ 1 = 0 ∧ ek = 3 ∧ eo = b4 ∧ zz = 0) ∨ (e2 = 0 ∧ k4 = 1 ∧ 1 = 1 ∧ ek = 0 ∧ eo = o2 ∧ zz = 1) at q125_0
        have hw : lo_Wd X ([oX8 (d 0) (M 0) (d 1) (d 2) (M 3) (d 3) (M 5) (d 4) (d 5) (d 6) (M 9) (d 7) (M 11) (M 12) (M 13) (M 14) (M 15) (M 16) (M 17) (((M 18) + 1) - 1) (M 19) a4 b4 k4 g4 ek eo (M 26) (M 27) (M 28), arI X (d 1) 122 w, arI X (d 6) 500 T]) A9 s9.heap H locs := hw
        refine W.eq (g2 := F0 m9 128 ls [.int (iI zz)]) rfl ?_
        refine lv_istore_n (lv' := [(3, .int (iI zz)), (2, .int (iI a2)), (1, .int (iI ti)), (0, .ref (d 0))]) Ex Eb dX8_repeatCommand_128 rfl hl (by decide) rfl (fun ls hl => ?_)
        exact lo_vret E hRt hLk hK hAe hw dX8_repeatCommand_129 rfl ⟨uI (uI (uI (uI (uI (uI (uI M 18 (((M 18) + 1) - 1)) 20 a4) 21 b4) 22 k4) 23 g4) 24 ek) 25 eo, w, (BDY_eq (BDY_deep hc (by omega)) rfl (by show ek = 4; omega) (by show eo = toB T (M 9) p; omega)), (by repeat (first | exact KPC.rf _ | refine KPC_u (by omega) ?_ | refine KPC_d (by omega) ?_)), (hWI), (by show (0 ≤ a4 ∧ a4 ≤ M 9) ∧ (0 ≤ g4 ∧ g4 ≤ 9999999) ∧ (0 ≤ ek ∧ ek ≤ 9) ∧ (0 ≤ k4 ∧ k4 ≤ 6) ∧ 0 ≤ M 19 ∧ M 19 ≤ 301; omega), (Or.inl (by show ek ≠ 0; omega)), (fun h9 => absurd (show ek = 0 from h9) (by omega)), rfl, rfl⟩
      · exact absurd c3 (by omega)
    · skip
      refine lv_aload_n Ex Eb dX8_repeatCommand_33 rfl (lv_at hl 1 rfl) ?_
      refine lv_iconst (v := iI 1) Ex Eb dX8_repeatCommand_34 rfl ?_
      refine lo_callV (q0 := 0) (rest := []) E hK hw (kX8_fail l X d (uI (uI (uI (uI (uI (uI M 20 a2) 21 b2) 22 k2) 23 g2) 24 e2) 25 o2) 1 (show i32 (e2) by omega)) (cwV 1 E.2.2.2.2 gX8_repeatCommand_X8_fail rfl rfl rfl (by decide +kernel) ⟨Nat.le_of_ble_eq_true rfl, Nat.le_of_ble_eq_true rfl⟩) rfl rfl [0] rfl (by decide) hl.1 rfl rfl (Nat.le_of_ble_eq_true rfl) dX8_repeatCommand_35 ⟨Nat.le_of_ble_eq_true rfl, Nat.le_of_ble_eq_true rfl⟩ (fun v w1 H locs hq hw => ?_)
      obtain ⟨e3, o3, q35_0, rfl, rfl⟩ := hq
      change (e2 = 0 ∧ e3 = 1 ∧ o3 = b2) ∨ (e2 ≠ 0 ∧ e3 = e2 ∧ o3 = o2) at q35_0
      have hw : lo_Wd X ([oX8 (d 0) (M 0) (d 1) (d 2) (M 3) (d 3) (M 5) (d 4) (d 5) (d 6) (M 9) (d 7) (M 11) (M 12) (M 13) (M 14) (M 15) (M 16) (M 17) (M 18) (M 19) a2 b2 k2 g2 e3 o3 (M 26) (M 27) (M 28), arI X (d 1) 122 w, arI X (d 6) 500 T]) A9 s9.heap H locs := hw
      refine W.eq (g2 := F0 m9 38 ls []) rfl ?_
      refine lv_aload_n Ex Eb dX8_repeatCommand_38 rfl (lv_at hl 1 rfl) ?_
      refine lo_get E hK hw huRX8 20 hf199 rfl 0 rfl rfl (by decide) (v := .int (iI a2)) rfl dX8_repeatCommand_39 ?_
      refine lv_istore_n (lv' := [(2, .int (iI a2)), (1, .int (iI ti)), (0, .ref (d 0))]) Ex Eb dX8_repeatCommand_42 rfl hl (by decide) rfl (fun ls hl => ?_)
      refine lv_aload_n Ex Eb dX8_repeatCommand_43 rfl (lv_at hl 2 rfl) ?_
      refine lv_dup Ex Eb dX8_repeatCommand_44 rfl ?_
      refine lo_get E hK hw huRX8 18 hf248 rfl 0 rfl rfl (by decide) (v := .int (iI (M 18))) rfl dX8_repeatCommand_45 ?_
      refine lv_iconst (v := iI 1) Ex Eb dX8_repeatCommand_48 rfl ?_
      refine lo_iadd E dX8_repeatCommand_49 ?_
      refine lo_put E hK hw huRX8 tyX8 tyX8_ok nmX8 18 hf248 rfl 0 rfl rfl (by decide) rfl rfl rfl rfl (Nat.le_of_ble_eq_true rfl) (ws' := [oX8 (d 0) (M 0) (d 1) (d 2) (M 3) (d 3) (M 5) (d 4) (d 5) (d 6) (M 9) (d 7) (M 11) (M 12) (M 13) (M 14) (M 15) (M 16) (M 17) ((M 18) + 1) (M 19) a2 b2 k2 g2 e3 o3 (M 26) (M 27) (M 28), arI X (d 1) 122 w, arI X (d 6) 500 T]) rfl dX8_repeatCommand_50 (fun H locs hw => ?_)
      refine lv_iconst (v := iI 0) Ex Eb dX8_repeatCommand_53 rfl ?_
      refine lv_istore_n (lv' := [(3, .int (iI 0)), (2, .int (iI a2)), (1, .int (iI ti)), (0, .ref (d 0))]) Ex Eb dX8_repeatCommand_54 rfl hl (by decide) rfl (fun ls hl => ?_)
      refine lv_iload_n Ex Eb dX8_repeatCommand_55 rfl (lv_at hl 0 rfl) ?_
      refine lv_iload_n Ex Eb dX8_repeatCommand_56 rfl (lv_at hl 2 rfl) ?_
      refine lo_icmp_ge (tgt := 109) E dX8_repeatCommand_57 (by decide) (by omega) (by omega) (fun c4 => ?_) (fun c4 => ?_)
      · skip
        refine lv_aload_n Ex Eb dX8_repeatCommand_109 rfl (lv_at hl 3 rfl) ?_
        refine lv_dup Ex Eb dX8_repeatCommand_110 rfl ?_
        refine lo_get E hK hw huRX8 18 hf248 rfl 0 rfl rfl (by decide) (v := .int (iI ((M 18) + 1))) rfl dX8_repeatCommand_111 ?_
        refine lv_iconst (v := iI 1) Ex Eb dX8_repeatCommand_114 rfl ?_
        refine lo_isub E dX8_repeatCommand_115 ?_
        refine lo_put E hK hw huRX8 tyX8 tyX8_ok nmX8 18 hf248 rfl 0 rfl rfl (by decide) rfl rfl rfl rfl (Nat.le_of_ble_eq_true rfl) (ws' := [oX8 (d 0) (M 0) (d 1) (d 2) (M 3) (d 3) (M 5) (d 4) (d 5) (d 6) (M 9) (d 7) (M 11) (M 12) (M 13) (M 14) (M 15) (M 16) (M 17) (((M 18) + 1) - 1) (M 19) a2 b2 k2 g2 e3 o3 (M 26) (M 27) (M 28), arI X (d 1) 122 w, arI X (d 6) 500 T]) rfl dX8_repeatCommand_116 (fun H locs hw => ?_)
        refine lv_aload_n Ex Eb dX8_repeatCommand_119 rfl (lv_at hl 3 rfl) ?_
        refine lo_callV (q0 := 0) (rest := []) E hK hw (kX8_advance l X d (uI (uI (uI (uI (uI (uI (uI M 18 (((M 18) + 1) - 1)) 20 a2) 21 b2) 22 k2) 23 g2) 24 e3) 25 o3) T (show 0 ≤ (M 9) ∧ (M 9) ≤ 500 by omega) (by omega) (show 0 ≤ a2 ∧ a2 ≤ (M 9) by omega) (show 0 ≤ g2 ∧ g2 ≤ 9999999 by omega) (show i32 (e3) by omega)) (cwV 0 E.2.2.2.2 gX8_repeatCommand_X8_advance rfl rfl rfl (by decide +kernel) ⟨Nat.le_of_ble_eq_true rfl, Nat.le_of_ble_eq_true rfl⟩) rfl rfl [0, 2] rfl (by decide) hl.1 rfl rfl (Nat.le_of_ble_eq_true rfl) dX8_repeatCommand_120 ⟨Nat.le_of_ble_eq_true rfl, Nat.le_of_ble_eq_true rfl⟩ (fun v w1 H locs hq hw => ?_)
        obtain ⟨b4, a4, k4, g4, q120_0, q120_1, rfl, rfl⟩ := hq
        change (e3 = 0 ∧ b4 = spE pSp T ((M 9)) (a2) ∧ SCN T ((M 9)) b4 (g2) a4 k4 g4) ∨ (e3 ≠ 0 ∧ a4 = a2 ∧ b4 = b2 ∧ k4 = k2 ∧ g4 = g2) at q120_0
        change 0 ≤ a4 ∧ a4 ≤ (M 9) ∧ 0 ≤ g4 ∧ g4 ≤ 9999999 at q120_1
        have hw : lo_Wd X ([oX8 (d 0) (M 0) (d 1) (d 2) (M 3) (d 3) (M 5) (d 4) (d 5) (d 6) (M 9) (d 7) (M 11) (M 12) (M 13) (M 14) (M 15) (M 16) (M 17) (((M 18) + 1) - 1) (M 19) a4 b4 k4 g4 e3 o3 (M 26) (M 27) (M 28), arI X (d 1) 122 w, arI X (d 6) 500 T]) A9 s9.heap H locs := hw
        refine W.eq (g2 := F0 m9 123 ls []) rfl ?_
        refine lv_aload_n Ex Eb dX8_repeatCommand_123 rfl (lv_at hl 3 rfl) ?_
        refine lv_iconst (v := iI 1) Ex Eb dX8_repeatCommand_124 rfl ?_
        refine lo_callV (q0 := 0) (rest := []) E hK hw (kX8_ends l X d (uI (uI (uI (uI (uI (uI (uI M 18 (((M 18) + 1) - 1)) 20 a4) 21 b4) 22 k4) 23 g4) 24 e3) 25 o3) 1 (show i32 (e3) by omega) (show i32 (k4) by omega) (by omega)) (cwV 1 E.2.2.2.2 gX8_repeatCommand_X8_ends rfl rfl rfl (by decide +kernel) ⟨Nat.le_of_ble_eq_true rfl, Nat.le_of_ble_eq_true rfl⟩) rfl rfl [0] rfl (by decide) hl.1 rfl rfl (Nat.le_of_ble_eq_true rfl) dX8_repeatCommand_125 ⟨Nat.le_of_ble_eq_true rfl, Nat.le_of_ble_eq_true rfl⟩ (fun v w1 H locs hq hw => ?_)
        obtain ⟨ek, eo, zz, q125_0, rfl, rfl⟩ := hq
        change (e3 ≠ 0 ∧ ek = e3 ∧ eo = o3 ∧ zz = 0) ∨ (e3 = 0 ∧ k4 ≠ 1 ∧ ek = 1 ∧ eo = b4 ∧ zz = 0) ∨ (e3 = 0 ∧ k4 = 1 ∧ 1 = 0 ∧ ek = 3 ∧ eo = b4 ∧ zz = 0) ∨ (e3 = 0 ∧ k4 = 1 ∧ 1 = 1 ∧ ek = 0 ∧ eo = o3 ∧ zz = 1) at q125_0
        have hw : lo_Wd X ([oX8 (d 0) (M 0) (d 1) (d 2) (M 3) (d 3) (M 5) (d 4) (d 5) (d 6) (M 9) (d 7) (M 11) (M 12) (M 13) (M 14) (M 15) (M 16) (M 17) (((M 18) + 1) - 1) (M 19) a4 b4 k4 g4 ek eo (M 26) (M 27) (M 28), arI X (d 1) 122 w, arI X (d 6) 500 T]) A9 s9.heap H locs := hw
        refine W.eq (g2 := F0 m9 128 ls [.int (iI zz)]) rfl ?_
        refine lv_istore_n (lv' := [(3, .int (iI zz)), (2, .int (iI a2)), (1, .int (iI ti)), (0, .ref (d 0))]) Ex Eb dX8_repeatCommand_128 rfl hl (by decide) rfl (fun ls hl => ?_)
        exact lo_vret E hRt hLk hK hAe hw dX8_repeatCommand_129 rfl ⟨uI (uI (uI (uI (uI (uI (uI M 18 (((M 18) + 1) - 1)) 20 a4) 21 b4) 22 k4) 23 g4) 24 ek) 25 eo, w, (BDY_eq (BDY_deep hc (by omega)) rfl (by show ek = 4; omega) (by show eo = toB T (M 9) p; omega)), (by repeat (first | exact KPC.rf _ | refine KPC_u (by omega) ?_ | refine KPC_d (by omega) ?_)), (hWI), (by show (0 ≤ a4 ∧ a4 ≤ M 9) ∧ (0 ≤ g4 ∧ g4 ≤ 9999999) ∧ (0 ≤ ek ∧ ek ≤ 9) ∧ (0 ≤ k4 ∧ k4 ≤ 6) ∧ 0 ≤ M 19 ∧ M 19 ≤ 301; omega), (Or.inl (by show ek ≠ 0; omega)), (fun h9 => absurd (show ek = 0 from h9) (by omega)), rfl, rfl⟩
      · exact absurd c4 (by omega)
