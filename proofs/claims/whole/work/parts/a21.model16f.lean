set_option maxHeartbeats 2000000 in
set_option maxRecDepth 100000 in
theorem kX8_command_0 (l : Launch) (X : KX) (kS : Nat → Nat) (d : Nat → Nat) (M w T : Nat → Int) (p : Int) (ht : 0 ≤ M 9 ∧ M 9 ≤ 500) (hT : ∀ k : Nat, 0 ≤ T k ∧ T k ≤ 255) (hWI : WI w) (hTR : TR T (M 9) p (M 20) (M 21) (M 22) (M 23)) (h24 : M 24 = 0) (hrg : (0 ≤ M 21 ∧ M 21 ≤ M 20 ∧ M 20 ≤ M 9) ∧ (0 ≤ M 22 ∧ M 22 ≤ 6) ∧ 0 ≤ M 23 ∧ M 23 ≤ 9999999) (hp : 0 ≤ p ∧ p ≤ M 9) (hD : M 18 = 0) (hx : 0 ≤ M 19 ∧ M 19 ≤ 300) (hend : ¬ (toK T (M 9) p = 0 ∧ M 18 = 0)) (hcl : ¬ (toK T (M 9) p = 3 ∧ T (toB T (M 9) p).toNat = 41 ∧ 0 < M 18)) : CE l X kS yX8_command wsX8_command ({ frames := 20, cells := 0, slots := 0, locals := 405 }) [.ref (d 0)] ([oX8 (d 0) (M 0) (d 1) (d 2) (M 3) (d 3) (M 5) (d 4) (d 5) (d 6) (M 9) (d 7) (M 11) (M 12) (M 13) (M 14) (M 15) (M 16) (M 17) (M 18) (M 19) (M 20) (M 21) (M 22) (M 23) (M 24) (M 25) (M 26) (M 27) (M 28), arI X (d 1) 122 w, arI X (d 6) 500 T]) (fun v9 w9 => ∃ N : Nat → Int, ∃ u : Nat → Int, (BDY T (M 9) (M 18) p (M 19) w (N 20) (N 19) u (N 24) (N 25)) ∧ (KPC M N) ∧ (WI u) ∧ ((0 ≤ N 20 ∧ N 20 ≤ M 9) ∧ (0 ≤ N 23 ∧ N 23 ≤ 9999999) ∧ (0 ≤ N 24 ∧ N 24 ≤ 9) ∧ (0 ≤ N 22 ∧ N 22 ≤ 6) ∧ 0 ≤ N 19 ∧ N 19 ≤ 301) ∧ (N 24 ≠ 0 ∨ p < N 20) ∧ (EO (N 24) (N 25) (M 25)) ∧ v9 = none ∧ w9 = [oX8 (d 0) (N 0) (d 1) (d 2) (N 3) (d 3) (N 5) (d 4) (d 5) (d 6) (N 9) (d 7) (N 11) (N 12) (N 13) (N 14) (N 15) (N 16) (N 17) (N 18) (N 19) (N 20) (N 21) (N 22) (N 23) (N 24) (N 25) (N 26) (N 27) (N 28), arI X (d 1) 122 u, arI X (d 6) 500 T]) 0 0 := by
  refine lo_enterE (cc := cX8_command) (maxL := 1) (ret := none) (lv := [(0, .ref (d 0))]) (by decide) rfl rfl (Nat.le_of_ble_eq_true rfl) ?_
  intro p9 e9 s9 m9 bl9 me9 c9 A9 ls hAe E hRt hLk hK hl hw hV
  have Ex := E.1
  have Eb := E.2.1
  have huRX8 : ∀ w ∈ u_ws RX8 TX8 29, w ∈ wsX8_command := by decide +kernel
  have hf251 : (Cond.fieldLink RX8 251 "LoanScheduleModel" "executed" "I").before _ s9 = true := E.2.2.2.2 _ (List.mem_of_getElem? (i := 1) rfl)
  obtain ⟨⟨hn0, hn1⟩, ⟨hb0, hb1⟩, hL⟩ := id hWI
  have hcr := cw_r T (M 9) p
  have hb9 := hTR.2.1
  have htr := TR_r (by omega) hTR
  refine lv_aload_n Ex Eb dX8_command_0 rfl (lv_at hl 0 rfl) ?_
  refine lo_ldcwS E hV 18 (by decide) rfl dX8_command_1 ?_
  refine lo_callVE (q0 := 0) (rest := []) E hK hw hV (kX8_isWord l X kS d M T 18 (ht) (hT) (by omega) (by omega) (by omega) (by omega)) (cwV 1 E.2.2.2.2 gX8_command_X8_isWord rfl rfl rfl (by decide +kernel) ⟨Nat.le_of_ble_eq_true rfl, Nat.le_of_ble_eq_true rfl⟩) rfl rfl [0, 2] rfl (by decide) hl.1 rfl rfl (Nat.le_of_ble_eq_true rfl) dX8_command_4 ⟨Nat.le_of_ble_eq_true rfl, Nat.le_of_ble_eq_true rfl⟩ (fun v w1 H locs hq hw => ?_)
  obtain ⟨z1, q4_0, rfl, rfl⟩ := hq
  have hw : lo_Wd X ([oX8 (d 0) (M 0) (d 1) (d 2) (M 3) (d 3) (M 5) (d 4) (d 5) (d 6) (M 9) (d 7) (M 11) (M 12) (M 13) (M 14) (M 15) (M 16) (M 17) (M 18) (M 19) (M 20) (M 21) (M 22) (M 23) (M 24) (M 25) (M 26) (M 27) (M 28), arI X (d 1) 122 w, arI X (d 6) 500 T]) A9 s9.heap H locs := hw
  refine W.eq (g2 := F0 m9 7 ls [.int (iI z1)]) rfl ?_
  have kr := wdI q4_0 (CWi hTR h24 8 (by omega))
  refine lo_if_eq (tgt := 15) E dX8_command_7 (by decide) (by omega) (fun c2 => ?_) (fun c2 => ?_)
  · skip
    refine lv_aload_n Ex Eb dX8_command_15 rfl (lv_at hl 0 rfl) ?_
    refine lo_callVE (q0 := 0) (rest := []) E hK hw hV (kX8_isCommand l X kS d M T (ht) (hT) (by omega) (by omega) (by omega)) (cwV 0 E.2.2.2.2 gX8_command_X8_isCommand rfl rfl rfl (by decide +kernel) ⟨Nat.le_of_ble_eq_true rfl, Nat.le_of_ble_eq_true rfl⟩) rfl rfl [0, 2] rfl (by decide) hl.1 rfl rfl (Nat.le_of_ble_eq_true rfl) dX8_command_16 ⟨Nat.le_of_ble_eq_true rfl, Nat.le_of_ble_eq_true rfl⟩ (fun v w1 H locs hq hw => ?_)
    obtain ⟨z3, q16_0, rfl, rfl⟩ := hq
    have hw : lo_Wd X ([oX8 (d 0) (M 0) (d 1) (d 2) (M 3) (d 3) (M 5) (d 4) (d 5) (d 6) (M 9) (d 7) (M 11) (M 12) (M 13) (M 14) (M 15) (M 16) (M 17) (M 18) (M 19) (M 20) (M 21) (M 22) (M 23) (M 24) (M 25) (M 26) (M 27) (M 28), arI X (d 1) 122 w, arI X (d 6) 500 T]) A9 s9.heap H locs := hw
    refine W.eq (g2 := F0 m9 19 ls [.int (iI z3)]) rfl ?_
    have kc := ISC hTR h24 q16_0
    refine lo_if_ne (tgt := 30) E dX8_command_19 (by decide) (by omega) (fun c4 => ?_) (fun c4 => ?_)
    · skip
      refine lv_aload_n Ex Eb dX8_command_30 rfl (lv_at hl 0 rfl) ?_
      refine lo_get E hK hw huRX8 19 hf251 rfl 0 rfl rfl (by decide) (v := .int (iI (M 19))) rfl dX8_command_31 ?_
      refine lv_sipush (v := iI 300) Ex Eb dX8_command_34 rfl ?_
      refine lo_icmp_ne (tgt := 45) E dX8_command_37 (by decide) (by omega) (by omega) (fun c5 => ?_) (fun c5 => ?_)
      · skip
        refine lv_aload_n Ex Eb dX8_command_45 rfl (lv_at hl 0 rfl) ?_
        refine lv_dup Ex Eb dX8_command_46 rfl ?_
        refine lo_get E hK hw huRX8 19 hf251 rfl 0 rfl rfl (by decide) (v := .int (iI (M 19))) rfl dX8_command_47 ?_
        refine lv_iconst (v := iI 1) Ex Eb dX8_command_50 rfl ?_
        refine lo_iadd E dX8_command_51 ?_
        refine lo_put E hK hw huRX8 tyX8 tyX8_ok nmX8 19 hf251 rfl 0 rfl rfl (by decide) rfl rfl rfl rfl (Nat.le_of_ble_eq_true rfl) (ws' := [oX8 (d 0) (M 0) (d 1) (d 2) (M 3) (d 3) (M 5) (d 4) (d 5) (d 6) (M 9) (d 7) (M 11) (M 12) (M 13) (M 14) (M 15) (M 16) (M 17) (M 18) (M 19 + 1) (M 20) (M 21) (M 22) (M 23) (M 24) (M 25) (M 26) (M 27) (M 28), arI X (d 1) 122 w, arI X (d 6) 500 T]) rfl dX8_command_52 (fun H locs hw => ?_)
        refine lv_aload_n Ex Eb dX8_command_55 rfl (lv_at hl 0 rfl) ?_
        refine lo_callV (q0 := 0) (rest := []) E hK hw (kX8_good l X d (uI M 19 (M 19 + 1)) (show i32 ((M 24)) by omega)) (cwV 0 E.2.2.2.2 gX8_command_X8_good rfl rfl rfl (by decide +kernel) ⟨Nat.le_of_ble_eq_true rfl, Nat.le_of_ble_eq_true rfl⟩) rfl rfl [0] rfl (by decide) hl.1 rfl rfl (Nat.le_of_ble_eq_true rfl) dX8_command_56 ⟨Nat.le_of_ble_eq_true rfl, Nat.le_of_ble_eq_true rfl⟩ (fun v w1 H locs hq hw => ?_)
        obtain ⟨z6, q56_0, rfl, rfl⟩ := hq
        change (z6 = 1 ∧ (M 24) = 0) ∨ (z6 = 0 ∧ (M 24) ≠ 0) at q56_0
        have hw : lo_Wd X ([oX8 (d 0) (M 0) (d 1) (d 2) (M 3) (d 3) (M 5) (d 4) (d 5) (d 6) (M 9) (d 7) (M 11) (M 12) (M 13) (M 14) (M 15) (M 16) (M 17) (M 18) (M 19 + 1) (M 20) (M 21) (M 22) (M 23) (M 24) (M 25) (M 26) (M 27) (M 28), arI X (d 1) 122 w, arI X (d 6) 500 T]) A9 s9.heap H locs := hw
        refine W.eq (g2 := F0 m9 59 ls [.int (iI z6)]) rfl ?_
        refine lo_if_eq (tgt := 66) E dX8_command_59 (by decide) (by omega) (fun c7 => ?_) (fun c7 => ?_)
        · exact absurd c7 (by omega)
        · skip
          refine lv_aload_n Ex Eb dX8_command_62 rfl (lv_at hl 0 rfl) ?_
          refine lo_callVE (q0 := 0) (rest := []) E hK hw hV (kX8_oneCommand l X kS d (uI M 19 (M 19 + 1)) w T p (ht) (hT) (hWI) (hTR) (h24) (hrg) (by show 1 ≤ cw T (M 9) p ∧ cw T (M 9) p ≤ 7; omega)) (cwV 0 E.2.2.2.2 gX8_command_X8_oneCommand rfl rfl rfl (by decide +kernel) ⟨Nat.le_of_ble_eq_true rfl, Nat.le_of_ble_eq_true rfl⟩) rfl rfl [0, 1, 2] rfl (by decide) hl.1 rfl rfl (Nat.le_of_ble_eq_true rfl) dX8_command_63 ⟨Nat.le_of_ble_eq_true rfl, Nat.le_of_ble_eq_true rfl⟩ (fun v w1 H locs hq hw => ?_)
          obtain ⟨N5, u5, q63_0, q63_1, q63_2, q63_3, rfl, rfl⟩ := hq
          change ONE T ((M 9)) (cw T ((M 9)) p) w ((M 20)) u5 (N5 20) (N5 24) (N5 25) at q63_0
          change (0 ≤ N5 20 ∧ N5 20 ≤ (M 9)) ∧ (0 ≤ N5 23 ∧ N5 23 ≤ 9999999) ∧ (0 ≤ N5 24 ∧ N5 24 ≤ 9) ∧ 0 ≤ N5 22 ∧ N5 22 ≤ 6 at q63_2
          change N5 24 = 0 → N5 25 = (M 25) at q63_3
          have hw : lo_Wd X ([oX8 (d 0) (N5 0) (d 1) (d 2) (N5 3) (d 3) (N5 5) (d 4) (d 5) (d 6) (N5 9) (d 7) (N5 11) (N5 12) (N5 13) (N5 14) (N5 15) (N5 16) (N5 17) (N5 18) (N5 19) (N5 20) (N5 21) (N5 22) (N5 23) (N5 24) (N5 25) (N5 26) (N5 27) (N5 28), arI X (d 1) 122 u5, arI X (d 6) 500 T]) A9 s9.heap H locs := hw
          refine W.eq (g2 := F0 m9 66 ls []) rfl ?_
          exact lo_vret E hRt hLk hK hAe hw dX8_command_66 rfl ⟨N5, u5, (by first | exact BDY_eq (BDY_one (c := cw T (M 9) p) (by omega) rfl (by omega) (by have h9 := q63_0; rw [hTR.1] at h9; exact h9)) (q63_1 19 (by omega)) rfl rfl | exact BDY_eq (BDY_none hend hcl (by omega)) rfl (by show ek = 1; omega) (by show eo = toB T (M 9) p; omega) | exact BDY_eq (BDY_many (by omega) (by omega)) rfl (by show ek = 5; omega) (by show eo = toB T (M 9) p; omega)), (by first | exact KPC.tr (KPC_u (by omega) (KPC.rf _)) (KPC_t q63_1) | (repeat (first | exact KPC.rf _ | refine KPC_u (by omega) ?_))), (by first | exact ONE_WI hWI (by omega) (by omega) q63_0 | exact hWI), (by first | (have h9 : N5 19 = M 19 + 1 := q63_1 19 (by omega); omega) | (show (0 ≤ M 20 ∧ M 20 ≤ M 9) ∧ (0 ≤ M 23 ∧ M 23 ≤ 9999999) ∧ (0 ≤ ek ∧ ek ≤ 9) ∧ (0 ≤ M 22 ∧ M 22 ≤ 6) ∧ 0 ≤ M 19 + 1 ∧ M 19 + 1 ≤ 301; omega)), (by first | (have h9 := ONE_p (by omega) (by omega) q63_0; omega) | exact Or.inl (by show ek ≠ 0; omega)), (by first | exact q63_3 | exact fun h9 => absurd (show ek = 0 from h9) (by omega)), rfl, rfl⟩
      · skip
        refine lv_aload_n Ex Eb dX8_command_40 rfl (lv_at hl 0 rfl) ?_
        refine lv_iconst (v := iI 5) Ex Eb dX8_command_41 rfl ?_
        refine lo_callV (q0 := 0) (rest := []) E hK hw (kX8_fail l X d M 5 (by omega)) (cwV 1 E.2.2.2.2 gX8_command_X8_fail rfl rfl rfl (by decide +kernel) ⟨Nat.le_of_ble_eq_true rfl, Nat.le_of_ble_eq_true rfl⟩) rfl rfl [0] rfl (by decide) hl.1 rfl rfl (Nat.le_of_ble_eq_true rfl) dX8_command_42 ⟨Nat.le_of_ble_eq_true rfl, Nat.le_of_ble_eq_true rfl⟩ (fun v w1 H locs hq hw => ?_)
        obtain ⟨ek, eo, q42_0, rfl, rfl⟩ := hq
        have hw : lo_Wd X ([oX8 (d 0) (M 0) (d 1) (d 2) (M 3) (d 3) (M 5) (d 4) (d 5) (d 6) (M 9) (d 7) (M 11) (M 12) (M 13) (M 14) (M 15) (M 16) (M 17) (M 18) (M 19) (M 20) (M 21) (M 22) (M 23) ek eo (M 26) (M 27) (M 28), arI X (d 1) 122 w, arI X (d 6) 500 T]) A9 s9.heap H locs := hw
        refine W.eq (g2 := F0 m9 45 ls []) rfl ?_
        refine lv_aload_n Ex Eb dX8_command_45 rfl (lv_at hl 0 rfl) ?_
        refine lv_dup Ex Eb dX8_command_46 rfl ?_
        refine lo_get E hK hw huRX8 19 hf251 rfl 0 rfl rfl (by decide) (v := .int (iI (M 19))) rfl dX8_command_47 ?_
        refine lv_iconst (v := iI 1) Ex Eb dX8_command_50 rfl ?_
        refine lo_iadd E dX8_command_51 ?_
        refine lo_put E hK hw huRX8 tyX8 tyX8_ok nmX8 19 hf251 rfl 0 rfl rfl (by decide) rfl rfl rfl rfl (Nat.le_of_ble_eq_true rfl) (ws' := [oX8 (d 0) (M 0) (d 1) (d 2) (M 3) (d 3) (M 5) (d 4) (d 5) (d 6) (M 9) (d 7) (M 11) (M 12) (M 13) (M 14) (M 15) (M 16) (M 17) (M 18) (M 19 + 1) (M 20) (M 21) (M 22) (M 23) ek eo (M 26) (M 27) (M 28), arI X (d 1) 122 w, arI X (d 6) 500 T]) rfl dX8_command_52 (fun H locs hw => ?_)
        refine lv_aload_n Ex Eb dX8_command_55 rfl (lv_at hl 0 rfl) ?_
        refine lo_callV (q0 := 0) (rest := []) E hK hw (kX8_good l X d (uI (uI (uI M 19 (M 19 + 1)) 24 ek) 25 eo) (show i32 (ek) by omega)) (cwV 0 E.2.2.2.2 gX8_command_X8_good rfl rfl rfl (by decide +kernel) ⟨Nat.le_of_ble_eq_true rfl, Nat.le_of_ble_eq_true rfl⟩) rfl rfl [0] rfl (by decide) hl.1 rfl rfl (Nat.le_of_ble_eq_true rfl) dX8_command_56 ⟨Nat.le_of_ble_eq_true rfl, Nat.le_of_ble_eq_true rfl⟩ (fun v w1 H locs hq hw => ?_)
        obtain ⟨z8, q56_0, rfl, rfl⟩ := hq
        change (z8 = 1 ∧ ek = 0) ∨ (z8 = 0 ∧ ek ≠ 0) at q56_0
        have hw : lo_Wd X ([oX8 (d 0) (M 0) (d 1) (d 2) (M 3) (d 3) (M 5) (d 4) (d 5) (d 6) (M 9) (d 7) (M 11) (M 12) (M 13) (M 14) (M 15) (M 16) (M 17) (M 18) (M 19 + 1) (M 20) (M 21) (M 22) (M 23) ek eo (M 26) (M 27) (M 28), arI X (d 1) 122 w, arI X (d 6) 500 T]) A9 s9.heap H locs := hw
        refine W.eq (g2 := F0 m9 59 ls [.int (iI z8)]) rfl ?_
        refine lo_if_eq (tgt := 66) E dX8_command_59 (by decide) (by omega) (fun c10 => ?_) (fun c10 => ?_)
        · skip
          exact lo_vret E hRt hLk hK hAe hw dX8_command_66 rfl ⟨uI (uI (uI M 19 (M 19 + 1)) 24 ek) 25 eo, w, (by first | exact BDY_eq (BDY_one (c := cw T (M 9) p) (by omega) rfl (by omega) (by have h9 := q63_0; rw [hTR.1] at h9; exact h9)) (q63_1 19 (by omega)) rfl rfl | exact BDY_eq (BDY_none hend hcl (by omega)) rfl (by show ek = 1; omega) (by show eo = toB T (M 9) p; omega) | exact BDY_eq (BDY_many (by omega) (by omega)) rfl (by show ek = 5; omega) (by show eo = toB T (M 9) p; omega)), (by first | exact KPC.tr (KPC_u (by omega) (KPC.rf _)) (KPC_t q63_1) | (repeat (first | exact KPC.rf _ | refine KPC_u (by omega) ?_))), (by first | exact ONE_WI hWI (by omega) (by omega) q63_0 | exact hWI), (by first | (have h9 : N5 19 = M 19 + 1 := q63_1 19 (by omega); omega) | (show (0 ≤ M 20 ∧ M 20 ≤ M 9) ∧ (0 ≤ M 23 ∧ M 23 ≤ 9999999) ∧ (0 ≤ ek ∧ ek ≤ 9) ∧ (0 ≤ M 22 ∧ M 22 ≤ 6) ∧ 0 ≤ M 19 + 1 ∧ M 19 + 1 ≤ 301; omega)), (by first | (have h9 := ONE_p (by omega) (by omega) q63_0; omega) | exact Or.inl (by show ek ≠ 0; omega)), (by first | exact q63_3 | exact fun h9 => absurd (show ek = 0 from h9) (by omega)), rfl, rfl⟩
        · exact absurd c10 (by omega)
    · skip
      refine lv_aload_n Ex Eb dX8_command_22 rfl (lv_at hl 0 rfl) ?_
      refine lv_iconst (v := iI 1) Ex Eb dX8_command_23 rfl ?_
      refine lo_callV (q0 := 0) (rest := []) E hK hw (kX8_fail l X d M 1 (by omega)) (cwV 1 E.2.2.2.2 gX8_command_X8_fail rfl rfl rfl (by decide +kernel) ⟨Nat.le_of_ble_eq_true rfl, Nat.le_of_ble_eq_true rfl⟩) rfl rfl [0] rfl (by decide) hl.1 rfl rfl (Nat.le_of_ble_eq_true rfl) dX8_command_24 ⟨Nat.le_of_ble_eq_true rfl, Nat.le_of_ble_eq_true rfl⟩ (fun v w1 H locs hq hw => ?_)
      obtain ⟨ek, eo, q24_0, rfl, rfl⟩ := hq
      have hw : lo_Wd X ([oX8 (d 0) (M 0) (d 1) (d 2) (M 3) (d 3) (M 5) (d 4) (d 5) (d 6) (M 9) (d 7) (M 11) (M 12) (M 13) (M 14) (M 15) (M 16) (M 17) (M 18) (M 19) (M 20) (M 21) (M 22) (M 23) ek eo (M 26) (M 27) (M 28), arI X (d 1) 122 w, arI X (d 6) 500 T]) A9 s9.heap H locs := hw
      refine W.eq (g2 := F0 m9 27 ls []) rfl ?_
      refine lv_goto (tgt := 45) Ex Eb dX8_command_27 (by decide) ?_
      refine lv_aload_n Ex Eb dX8_command_45 rfl (lv_at hl 0 rfl) ?_
      refine lv_dup Ex Eb dX8_command_46 rfl ?_
      refine lo_get E hK hw huRX8 19 hf251 rfl 0 rfl rfl (by decide) (v := .int (iI (M 19))) rfl dX8_command_47 ?_
      refine lv_iconst (v := iI 1) Ex Eb dX8_command_50 rfl ?_
      refine lo_iadd E dX8_command_51 ?_
      refine lo_put E hK hw huRX8 tyX8 tyX8_ok nmX8 19 hf251 rfl 0 rfl rfl (by decide) rfl rfl rfl rfl (Nat.le_of_ble_eq_true rfl) (ws' := [oX8 (d 0) (M 0) (d 1) (d 2) (M 3) (d 3) (M 5) (d 4) (d 5) (d 6) (M 9) (d 7) (M 11) (M 12) (M 13) (M 14) (M 15) (M 16) (M 17) (M 18) (M 19 + 1) (M 20) (M 21) (M 22) (M 23) ek eo (M 26) (M 27) (M 28), arI X (d 1) 122 w, arI X (d 6) 500 T]) rfl dX8_command_52 (fun H locs hw => ?_)
      refine lv_aload_n Ex Eb dX8_command_55 rfl (lv_at hl 0 rfl) ?_
      refine lo_callV (q0 := 0) (rest := []) E hK hw (kX8_good l X d (uI (uI (uI M 19 (M 19 + 1)) 24 ek) 25 eo) (show i32 (ek) by omega)) (cwV 0 E.2.2.2.2 gX8_command_X8_good rfl rfl rfl (by decide +kernel) ⟨Nat.le_of_ble_eq_true rfl, Nat.le_of_ble_eq_true rfl⟩) rfl rfl [0] rfl (by decide) hl.1 rfl rfl (Nat.le_of_ble_eq_true rfl) dX8_command_56 ⟨Nat.le_of_ble_eq_true rfl, Nat.le_of_ble_eq_true rfl⟩ (fun v w1 H locs hq hw => ?_)
      obtain ⟨z11, q56_0, rfl, rfl⟩ := hq
      change (z11 = 1 ∧ ek = 0) ∨ (z11 = 0 ∧ ek ≠ 0) at q56_0
      have hw : lo_Wd X ([oX8 (d 0) (M 0) (d 1) (d 2) (M 3) (d 3) (M 5) (d 4) (d 5) (d 6) (M 9) (d 7) (M 11) (M 12) (M 13) (M 14) (M 15) (M 16) (M 17) (M 18) (M 19 + 1) (M 20) (M 21) (M 22) (M 23) ek eo (M 26) (M 27) (M 28), arI X (d 1) 122 w, arI X (d 6) 500 T]) A9 s9.heap H locs := hw
      refine W.eq (g2 := F0 m9 59 ls [.int (iI z11)]) rfl ?_
      refine lo_if_eq (tgt := 66) E dX8_command_59 (by decide) (by omega) (fun c12 => ?_) (fun c12 => ?_)
      · skip
        exact lo_vret E hRt hLk hK hAe hw dX8_command_66 rfl ⟨uI (uI (uI M 19 (M 19 + 1)) 24 ek) 25 eo, w, (by first | exact BDY_eq (BDY_one (c := cw T (M 9) p) (by omega) rfl (by omega) (by have h9 := q63_0; rw [hTR.1] at h9; exact h9)) (q63_1 19 (by omega)) rfl rfl | exact BDY_eq (BDY_none hend hcl (by omega)) rfl (by show ek = 1; omega) (by show eo = toB T (M 9) p; omega) | exact BDY_eq (BDY_many (by omega) (by omega)) rfl (by show ek = 5; omega) (by show eo = toB T (M 9) p; omega)), (by first | exact KPC.tr (KPC_u (by omega) (KPC.rf _)) (KPC_t q63_1) | (repeat (first | exact KPC.rf _ | refine KPC_u (by omega) ?_))), (by first | exact ONE_WI hWI (by omega) (by omega) q63_0 | exact hWI), (by first | (have h9 : N5 19 = M 19 + 1 := q63_1 19 (by omega); omega) | (show (0 ≤ M 20 ∧ M 20 ≤ M 9) ∧ (0 ≤ M 23 ∧ M 23 ≤ 9999999) ∧ (0 ≤ ek ∧ ek ≤ 9) ∧ (0 ≤ M 22 ∧ M 22 ≤ 6) ∧ 0 ≤ M 19 + 1 ∧ M 19 + 1 ≤ 301; omega)), (by first | (have h9 := ONE_p (by omega) (by omega) q63_0; omega) | exact Or.inl (by show ek ≠ 0; omega)), (by first | exact q63_3 | exact fun h9 => absurd (show ek = 0 from h9) (by omega)), rfl, rfl⟩
      · exact absurd c12 (by omega)
  · skip
    refine lv_aload_n Ex Eb dX8_command_10 rfl (lv_at hl 0 rfl) ?_
    refine lo_callVE (q0 := 0) (rest := []) E hK hw hV (kX8_repeatCommand_0 l X kS d M w T p (ht) (hT) (hWI) (hTR) (h24) (hrg) (hp) (hD) (hx) (by omega)) (cwV 0 E.2.2.2.2 gX8_command_X8_repeatCommand rfl rfl rfl (by decide +kernel) ⟨Nat.le_of_ble_eq_true rfl, Nat.le_of_ble_eq_true rfl⟩) rfl rfl [0, 1, 2] rfl (by decide) hl.1 rfl rfl (Nat.le_of_ble_eq_true rfl) dX8_command_11 ⟨Nat.le_of_ble_eq_true rfl, Nat.le_of_ble_eq_true rfl⟩ (fun v w1 H locs hq hw => ?_)
    obtain ⟨N5, u5, q11_0, q11_1, q11_2, q11_3, q11_4, q11_5, rfl, rfl⟩ := hq
    have hw : lo_Wd X ([oX8 (d 0) (N5 0) (d 1) (d 2) (N5 3) (d 3) (N5 5) (d 4) (d 5) (d 6) (N5 9) (d 7) (N5 11) (N5 12) (N5 13) (N5 14) (N5 15) (N5 16) (N5 17) (N5 18) (N5 19) (N5 20) (N5 21) (N5 22) (N5 23) (N5 24) (N5 25) (N5 26) (N5 27) (N5 28), arI X (d 1) 122 u5, arI X (d 6) 500 T]) A9 s9.heap H locs := hw
    refine W.eq (g2 := F0 m9 14 ls []) rfl ?_
    exact lo_vret E hRt hLk hK hAe hw dX8_command_14 rfl ⟨N5, u5, (q11_0), (q11_1), (q11_2), (q11_3), (q11_4), (q11_5), rfl, rfl⟩
