set_option maxHeartbeats 2000000 in
set_option maxRecDepth 100000 in
theorem kX8_command_1 (l : Launch) (X : KX) (kS : Nat → Nat) (d : Nat → Nat) (M w T : Nat → Int) (p : Int) (ht : 0 ≤ M 9 ∧ M 9 ≤ 500) (hT : ∀ k : Nat, 0 ≤ T k ∧ T k ≤ 255) (hWI : WI w) (hTR : TR T (M 9) p (M 20) (M 21) (M 22) (M 23)) (h24 : M 24 = 0) (hrg : (0 ≤ M 21 ∧ M 21 ≤ M 20 ∧ M 20 ≤ M 9) ∧ (0 ≤ M 22 ∧ M 22 ≤ 6) ∧ 0 ≤ M 23 ∧ M 23 ≤ 9999999) (hp : 0 ≤ p ∧ p ≤ M 9) (hD : M 18 = 1) (hx : 0 ≤ M 19 ∧ M 19 ≤ 300) (hend : ¬ (toK T (M 9) p = 0 ∧ M 18 = 0)) (hcl : ¬ (toK T (M 9) p = 3 ∧ T (toB T (M 9) p).toNat = 41 ∧ 0 < M 18)) : CE l X kS yX8_command wsX8_command ({ frames := 18, cells := 0, slots := 0, locals := 362 }) [.ref (d 0)] ([oX8 (d 0) (M 0) (d 1) (d 2) (M 3) (d 3) (M 5) (d 4) (d 5) (d 6) (M 9) (d 7) (M 11) (M 12) (M 13) (M 14) (M 15) (M 16) (M 17) (M 18) (M 19) (M 20) (M 21) (M 22) (M 23) (M 24) (M 25) (M 26) (M 27) (M 28), arI X (d 1) 122 w, arI X (d 6) 500 T]) (fun v9 w9 => ∃ N : Nat → Int, ∃ u : Nat → Int, (BDY T (M 9) (M 18) p (M 19) w (N 20) (N 19) u (N 24) (N 25)) ∧ (KPC M N) ∧ (WI u) ∧ ((0 ≤ N 20 ∧ N 20 ≤ M 9) ∧ (0 ≤ N 23 ∧ N 23 ≤ 9999999) ∧ (0 ≤ N 24 ∧ N 24 ≤ 9) ∧ (0 ≤ N 22 ∧ N 22 ≤ 6) ∧ 0 ≤ N 19 ∧ N 19 ≤ 301) ∧ (N 24 ≠ 0 ∨ p < N 20) ∧ (EO (N 24) (N 25) (M 25)) ∧ v9 = none ∧ w9 = [oX8 (d 0) (N 0) (d 1) (d 2) (N 3) (d 3) (N 5) (d 4) (d 5) (d 6) (N 9) (d 7) (N 11) (N 12) (N 13) (N 14) (N 15) (N 16) (N 17) (N 18) (N 19) (N 20) (N 21) (N 22) (N 23) (N 24) (N 25) (N 26) (N 27) (N 28), arI X (d 1) 122 u, arI X (d 6) 500 T]) 0 0 := by
  refine lo_enterE (cc := cX8_command) (maxL := 1) (ret := none) (lv := [(0, .ref (d 0))]) (by decide) rfl rfl (Nat.le_of_ble_eq_true rfl) ?_
  intro p9 e9 s9 m9 bl9 me9 c9 A9 ls hAe E hRt hLk hK hl hw hV
  have Ex := E.1
  have Eb := E.2.1
  have huRX8 : ∀ w ∈ u_ws RX8 TX8 29, w ∈ wsX8_command := by decide +kernel
  have hf251 : (Cond.fieldLink RX8 251 "LoanScheduleModel" "executed" "I").before _ s9 = true := E.2.2.2.2 _ (List.mem_of_getElem? (i := 1) rfl)
  obtain ⟨⟨hn0, hn1⟩, ⟨hb0, hb1⟩, hL⟩ := id hWI
  have hcr := cw_r T (M 9) p
  have hb9 := hTR.2.1
  have htr := TR_r (by omega) hTR
  refine lv_aload_n Ex Eb dX8_command_0 rfl (lv_at hl 0 rfl) ?_
  refine lo_ldcwS E hV 18 (by decide) rfl dX8_command_1 ?_
  refine lo_callVE (q0 := 0) (rest := []) E hK hw hV (kX8_isWord l X kS d M T 18 (ht) (hT) (by omega) (by omega) (by omega) (by omega)) (cwV 1 E.2.2.2.2 gX8_command_X8_isWord rfl rfl rfl (by decide +kernel) ⟨Nat.le_of_ble_eq_true rfl, Nat.le_of_ble_eq_true rfl⟩) rfl rfl [0, 2] rfl (by decide) hl.1 rfl rfl (Nat.le_of_ble_eq_true rfl) dX8_command_4 ⟨Nat.le_of_ble_eq_true rfl, Nat.le_of_ble_eq_true rfl⟩ (fun v w1 H locs hq hw => ?_)
  obtain ⟨z1, q4_0, rfl, rfl⟩ := hq
  have hw : lo_Wd X ([oX8 (d 0) (M 0) (d 1) (d 2) (M 3) (d 3) (M 5) (d 4) (d 5) (d 6) (M 9) (d 7) (M 11) (M 12) (M 13) (M 14) (M 15) (M 16) (M 17) (M 18) (M 19) (M 20) (M 21) (M 22) (M 23) (M 24) (M 25) (M 26) (M 27) (M 28), arI X (d 1) 122 w, arI X (d 6) 500 T]) A9 s9.heap H locs := hw
  refine W.eq (g2 := F0 m9 7 ls [.int (iI z1)]) rfl ?_
  have kr := wdI q4_0 (CWi hTR h24 8 (by omega))
  refine lo_if_eq (tgt := 15) E dX8_command_7 (by decide) (by omega) (fun c2 => ?_) (fun c2 => ?_)
  · skip
    refine lv_aload_n Ex Eb dX8_command_15 rfl (lv_at hl 0 rfl) ?_
    refine lo_callVE (q0 := 0) (rest := []) E hK hw hV (kX8_isCommand l X kS d M T (ht) (hT) (by omega) (by omega) (by omega)) (cwV 0 E.2.2.2.2 gX8_command_X8_isCommand rfl rfl rfl (by decide +kernel) ⟨Nat.le_of_ble_eq_true rfl, Nat.le_of_ble_eq_true rfl⟩) rfl rfl [0, 2] rfl (by decide) hl.1 rfl rfl (Nat.le_of_ble_eq_true rfl) dX8_command_16 ⟨Nat.le_of_ble_eq_true rfl, Nat.le_of_ble_eq_true rfl⟩ (fun v w1 H locs hq hw => ?_)
    obtain ⟨z3, q16_0, rfl, rfl⟩ := hq
    have hw : lo_Wd X ([oX8 (d 0) (M 0) (d 1) (d 2) (M 3) (d 3) (M 5) (d 4) (d 5) (d 6) (M 9) (d 7) (M 11) (M 12) (M 13) (M 14) (M 15) (M 16) (M 17) (M 18) (M 19) (M 20) (M 21) (M 22) (M 23) (M 24) (M 25) (M 26) (M 27) (M 28), arI X (d 1) 122 w, arI X (d 6) 500 T]) A9 s9.heap H locs := hw
    refine W.eq (g2 := F0 m9 19 ls [.int (iI z3)]) rfl ?_
    have kc := ISC hTR h24 q16_0
    refine lo_if_ne (tgt := 30) E dX8_command_19 (by decide) (by omega) (fun c4 => ?_) (fun c4 => ?_)
    · skip
      refine lv_aload_n Ex Eb dX8_command_30 rfl (lv_at hl 0 rfl) ?_
      refine lo_get E hK hw huRX8 19 hf251 rfl 0 rfl rfl (by decide) (v := .int (iI (M 19))) rfl dX8_command_31 ?_
      refine lv_sipush (v := iI 300) Ex Eb dX8_command_34 rfl ?_
      refine lo_icmp_ne (tgt := 45) E dX8_command_37 (by decide) (by omega) (by omega) (fun c5 => ?_) (fun c5 => ?_)
      · skip
        refine lv_aload_n Ex Eb dX8_command_45 rfl (lv_at hl 0 rfl) ?_
        refine lv_dup Ex Eb dX8_command_46 rfl ?_
        refine lo_get E hK hw huRX8 19 hf251 rfl 0 rfl rfl (by decide) (v := .int (iI (M 19))) rfl dX8_command_47 ?_
        refine lv_iconst (v := iI 1) Ex Eb dX8_command_50 rfl ?_
        refine lo_iadd E dX8_command_51 ?_
        refine lo_put E hK hw huRX8 tyX8 tyX8_ok nmX8 19 hf251 rfl 0 rfl rfl (by decide) rfl rfl rfl rfl (Nat.le_of_ble_eq_true rfl) (ws' := [oX8 (d 0) (M 0) (d 1) (d 2) (M 3) (d 3) (M 5) (d 4) (d 5) (d 6) (M 9) (d 7) (M 11) (M 12) (M 13) (M 14) (M 15) (M 16) (M 17) (M 18) (M 19 + 1) (M 20) (M 21) (M 22) (M 23) (M 24) (M 25) (M 26) (M 27) (M 28), arI X (d 1) 122 w, arI X (d 6) 500 T]) rfl dX8_command_52 (fun H locs hw => ?_)
        refine lv_aload_n Ex Eb dX8_command_55 rfl (lv_at hl 0 rfl) ?_
        refine lo_callV (q0 := 0) (rest := []) E hK hw (kX8_good l X d (uI M 19 (M 19 + 1)) (show i32 ((M 24)) by omega)) (cwV 0 E.2.2.2.2 gX8_command_X8_good rfl rfl rfl (by decide +kernel) ⟨Nat.le_of_ble_eq_true rfl, Nat.le_of_ble_eq_true rfl⟩) rfl rfl [0] rfl (by decide) hl.1 rfl rfl (Nat.le_of_ble_eq_true rfl) dX8_command_56 ⟨Nat.le_of_ble_eq_true rfl, Nat.le_of_ble_eq_true rfl⟩ (fun v w1 H locs hq hw => ?_)
        obtain ⟨z6, q56_0, rfl, rfl⟩ := hq
        change (z6 = 1 ∧ (M 24) = 0) ∨ (z6 = 0 ∧ (M 24) ≠ 0) at q56_0
        have hw : lo_Wd X ([oX8 (d 0) (M 0) (d 1) (d 2) (M 3) (d 3) (M 5) (d 4) (d 5) (d 6) (M 9) (d 7) (M 11) (M 12) (M 13) (M 14) (M 15) (M 16) (M 17) (M 18) (M 19 + 1) (M 20) (M 21) (M 22) (M 23) (M 24) (M 25) (M 26) (M 27) (M 28), arI X (d 1) 122 w, arI X (d 6) 500 T]) A9 s9.heap H locs := hw
        refine W.eq (g2 := F0 m9 59 ls [.int (iI z6)]) rfl ?_
        refine lo_if_eq (tgt := 66) E dX8_command_59 (by decide) (by omega) (fun c7 => ?_) (fun c7 => ?_)
        · exact absurd c7 (by omega)
        · skip
          refine lv_aload_n Ex Eb dX8_command_62 rfl (lv_at hl 0 rfl) ?_
          refine lo_callVE (q0 := 0) (rest := []) E hK hw hV (kX8_oneCommand l X kS d (uI M 19 (M 19 + 1)) w T p (ht) (hT) (hWI) (hTR) (h24) (hrg) (by show 1 ≤ cw T (M 9) p ∧ cw T (M 9) p ≤ 7; omega)) (cwV 0 E.2.2.2.2 gX8_command_X8_oneCommand rfl rfl rfl (by decide +kernel) ⟨Nat.le_of_ble_eq_true rfl, Nat.le_of_ble_eq_true rfl⟩) rfl rfl [0, 1, 2] rfl (by decide) hl.1 rfl rfl (Nat.le_of_ble_eq_true rfl) dX8_command_63 ⟨Nat.le_of_ble_eq_true rfl, Nat.le_of_ble_eq_true rfl⟩ (fun v w1 H locs hq hw => ?_)
          obtain ⟨N5, u5, q63_0, q63_1, q63_2, q63_3, rfl, rfl⟩ := hq
          change ONE T ((M 9)) (cw T ((M 9)) p) w ((M 20)) u5 (N5 20) (N5 24) (N5 25) at q63_0
          change (0 ≤ N5 20 ∧ N5 20 ≤ (M 9)) ∧ (0 ≤ N5 23 ∧ N5 23 ≤ 9999999) ∧ (0 ≤ N5 24 ∧ N5 24 ≤ 9) ∧ 0 ≤ N5 22 ∧ N5 22 ≤ 6 at q63_2
          change N5 24 = 0 → N5 25 = (M 25) at q63_3
          have hw : lo_Wd X ([oX8 (d 0) (N5 0) (d 1) (d 2) (N5 3) (d 3) (N5 5) (d 4) (d 5) (d 6) (N5 9) (d 7) (N5 11) (N5 12) (N5 13) (N5 14) (N5 15) (N5 16) (N5 17) (N5 18) (N5 19) (N5 20) (N5 21) (N5 22) (N5 23) (N5 24) (N5 25) (N5 26) (N5 27) (N5 28), arI X (d 1) 122 u5, arI X (d 6) 500 T]) A9 s9.heap H locs := hw
          refine W.eq (g2 := F0 m9 66 ls []) rfl ?_
          exact lo_vret E hRt hLk hK hAe hw dX8_command_66 rfl ⟨N5, u5, (by first | exact BDY_eq (BDY_one (c := cw T (M 9) p) (by omega) rfl (by omega) (by have h9 := q63_0; rw [hTR.1] at h9; exact h9)) (q63_1 19 (by omega)) rfl rfl | exact BDY_eq (BDY_none hend hcl (by omega)) rfl (by show ek = 1; omega) (by show eo = toB T (M 9) p; omega) | exact BDY_eq (BDY_many (by omega) (by omega)) rfl (by show ek = 5; omega) (by show eo = toB T (M 9) p; omega)), (by first | exact KPC.tr (KPC_u (by omega) (KPC.rf _)) (KPC_t q63_1) | (repeat (first | exact KPC.rf _ | refine KPC_u (by omega) ?_))), (by first | exact ONE_WI hWI (by omega) (by omega) q63_0 | exact hWI), (by first | (have h9 : N5 19 = M 19 + 1 := q63_1 19 (by omega); omega) | (show (0 ≤ M 20 ∧ M 20 ≤ M 9) ∧ (0 ≤ M 23 ∧ M 23 ≤ 9999999) ∧ (0 ≤ ek ∧ ek ≤ 9) ∧ (0 ≤ M 22 ∧ M 22 ≤ 6) ∧ 0 ≤ M 19 + 1 ∧ M 19 + 1 ≤ 301; omega)), (by first | (have h9 := ONE_p (by omega) (by omega) q63_0; omega) | exact Or.inl (by show ek ≠ 0; omega)), (by first | exact q63_3 | exact fun h9 => absurd (show ek = 0 from h9) (by omega)), rfl, rfl⟩
      · skip
        refine lv_aload_n Ex Eb dX8_command_40 rfl (lv_at hl 0 rfl) ?_
        refine lv_iconst (v := iI 5) Ex Eb dX8_command_41 rfl ?_
        refine lo_callV (q0 := 0) (rest := []) E hK hw (kX8_fail l X d M 5 (by omega)) (cwV 1 E.2.2.2.2 gX8_command_X8_fail rfl rfl rfl (by decide +kernel) ⟨Nat.le_of_ble_eq_true rfl, Nat.le_of_ble_eq_true rfl⟩) rfl rfl [0] rfl (by decide) hl.1 rfl rfl (Nat.le_of_ble_eq_true rfl) dX8_command_42 ⟨Nat.le_of_ble_eq_true rfl, Nat.le_of_ble_eq_true rfl⟩ (fun v w1 H locs hq hw => ?_)
        obtain ⟨ek, eo, q42_0, rfl, rfl⟩ := hq
        have hw : lo_Wd X ([oX8 (d 0) (M 0) (d 1) (d 2) (M 3) (d 3) (M 5) (d 4) (d 5) (d 6) (M 9) (d 7) (M 11) (M 12) (M 13) (M 14) (M 15) (M 16) (M 17) (M 18) (M 19) (M 20) (M 21) (M 22) (M 23) ek eo (M 26) (M 27) (M 28), arI X (d 1) 122 w, arI X (d 6) 500 T]) A9 s9.heap H locs := hw
        refine W.eq (g2 := F0 m9 45 ls []) rfl ?_
        refine lv_aload_n Ex Eb dX8_command_45 rfl (lv_at hl 0 rfl) ?_
        refine lv_dup Ex Eb dX8_command_46 rfl ?_
        refine lo_get E hK hw huRX8 19 hf251 rfl 0 rfl rfl (by decide) (v := .int (iI (M 19))) rfl dX8_command_47 ?_
        refine lv_iconst (v := iI 1) Ex Eb dX8_command_50 rfl ?_
        refine lo_iadd E dX8_command_51 ?_
        refine lo_put E hK hw huRX8 tyX8 tyX8_ok nmX8 19 hf251 rfl 0 rfl rfl (by decide) rfl rfl rfl rfl (Nat.le_of_ble_eq_true rfl) (ws' := [oX8 (d 0) (M 0) (d 1) (d 2) (M 3) (d 3) (M 5) (d 4) (d 5) (d 6) (M 9) (d 7) (M 11) (M 12) (M 13) (M 14) (M 15) (M 16) (M 17) (M 18) (M 19 + 1) (M 20) (M 21) (M 22) (M 23) ek eo (M 26) (M 27) (M 28), arI X (d 1) 122 w, arI X (d 6) 500 T]) rfl dX8_command_52 (fun H locs hw => ?_)
        refine lv_aload_n Ex Eb dX8_command_55 rfl (lv_at hl 0 rfl) ?_
        refine lo_callV (q0 := 0) (rest := []) E hK hw (kX8_good l X d (uI (uI (uI M 19 (M 19 + 1)) 24 ek) 25 eo) (show i32 (ek) by omega)) (cwV 0 E.2.2.2.2 gX8_command_X8_good rfl rfl rfl (by decide +kernel) ⟨Nat.le_of_ble_eq_true rfl, Nat.le_of_ble_eq_true rfl⟩) rfl rfl [0] rfl (by decide) hl.1 rfl rfl (Nat.le_of_ble_eq_true rfl) dX8_command_56 ⟨Nat.le_of_ble_eq_true rfl, Nat.le_of_ble_eq_true rfl⟩ (fun v w1 H locs hq hw => ?_)
        obtain ⟨z8, q56_0, rfl, rfl⟩ := hq
        change (z8 = 1 ∧ ek = 0) ∨ (z8 = 0 ∧ ek ≠ 0) at q56_0
        have hw : lo_Wd X ([oX8 (d 0) (M 0) (d 1) (d 2) (M 3) (d 3) (M 5) (d 4) (d 5) (d 6) (M 9) (d 7) (M 11) (M 12) (M 13) (M 14) (M 15) (M 16) (M 17) (M 18) (M 19 + 1) (M 20) (M 21) (M 22) (M 23) ek eo (M 26) (M 27) (M 28), arI X (d 1) 122 w, arI X (d 6) 500 T]) A9 s9.heap H locs := hw
        refine W.eq (g2 := F0 m9 59 ls [.int (iI z8)]) rfl ?_
        refine lo_if_eq (tgt := 66) E dX8_command_59 (by decide) (by omega) (fun c10 => ?_) (fun c10 => ?_)
        · skip
          exact lo_vret E hRt hLk hK hAe hw dX8_command_66 rfl ⟨uI (uI (uI M 19 (M 19 + 1)) 24 ek) 25 eo, w, (by first | exact BDY_eq (BDY_one (c := cw T (M 9) p) (by omega) rfl (by omega) (by have h9 := q63_0; rw [hTR.1] at h9; exact h9)) (q63_1 19 (by omega)) rfl rfl | exact BDY_eq (BDY_none hend hcl (by omega)) rfl (by show ek = 1; omega) (by show eo = toB T (M 9) p; omega) | exact BDY_eq (BDY_many (by omega) (by omega)) rfl (by show ek = 5; omega) (by show eo = toB T (M 9) p; omega)), (by first | exact KPC.tr (KPC_u (by omega) (KPC.rf _)) (KPC_t q63_1) | (repeat (first | exact KPC.rf _ | refine KPC_u (by omega) ?_))), (by first | exact ONE_WI hWI (by omega) (by omega) q63_0 | exact hWI), (by first | (have h9 : N5 19 = M 19 + 1 := q63_1 19 (by omega); omega) | (show (0 ≤ M 20 ∧ M 20 ≤ M 9) ∧ (0 ≤ M 23 ∧ M 23 ≤ 9999999) ∧ (0 ≤ ek ∧ ek ≤ 9) ∧ (0 ≤ M 22 ∧ M 22 ≤ 6) ∧ 0 ≤ M 19 + 1 ∧ M 19 + 1 ≤ 301; omega)), (by first | (have h9 := ONE_p (by omega) (by omega) q63_0; omega) | exact Or.inl (by show ek ≠ 0; omega)), (by first | exact q63_3 | exact fun h9 => absurd (show ek = 0 from h9) (by omega)), rfl, rfl⟩
        · exact absurd c10 (by omega)
    · skip
      refine lv_aload_n Ex Eb dX8_command_22 rfl (lv_at hl 0 rfl) ?_
      refine lv_iconst (v := iI 1) Ex Eb dX8_command_23 rfl ?_
      refine lo_callV (q0 := 0) (rest := []) E hK hw (kX8_fail l X d M 1 (by omega)) (cwV 1 E.2.2.2.2 gX8_command_X8_fail rfl rfl rfl (by decide +kernel) ⟨Nat.le_of_ble_eq_true rfl, Nat.le_of_ble_eq_true rfl⟩) rfl rfl [0] rfl (by decide) hl.1 rfl rfl (Nat.le_of_ble_eq_true rfl) dX8_command_24 ⟨Nat.le_of_ble_eq_true rfl, Nat.le_of_ble_eq_true rfl⟩ (fun v w1 H locs hq hw => ?_)
      obtain ⟨ek, eo, q24_0, rfl, rfl⟩ := hq
      have hw : lo_Wd X ([oX8 (d 0) (M 0) (d 1) (d 2) (M 3) (d 3) (M 5) (d 4) (d 5) (d 6) (M 9) (d 7) (M 11) (M 12) (M 13) (M 14) (M 15) (M 16) (M 17) (M 18) (M 19) (M 20) (M 21) (M 22) (M 23) ek eo (M 26) (M 27) (M 28), arI X (d 1) 122 w, arI X (d 6) 500 T]) A9 s9.heap H locs := hw
      refine W.eq (g2 := F0 m9 27 ls []) rfl ?_
      refine lv_goto (tgt := 45) Ex Eb dX8_command_27 (by decide) ?_
      refine lv_aload_n Ex Eb dX8_command_45 rfl (lv_at hl 0 rfl) ?_
      refine lv_dup Ex Eb dX8_command_46 rfl ?_
      refine lo_get E hK hw huRX8 19 hf251 rfl 0 rfl rfl (by decide) (v := .int (iI (M 19))) rfl dX8_command_47 ?_
      refine lv_iconst (v := iI 1) Ex Eb dX8_command_50 rfl ?_
      refine lo_iadd E dX8_command_51 ?_
      refine lo_put E hK hw huRX8 tyX8 tyX8_ok nmX8 19 hf251 rfl 0 rfl rfl (by decide) rfl rfl rfl rfl (Nat.le_of_ble_eq_true rfl) (ws' := [oX8 (d 0) (M 0) (d 1) (d 2) (M 3) (d 3) (M 5) (d 4) (d 5) (d 6) (M 9) (d 7) (M 11) (M 12) (M 13) (M 14) (M 15) (M 16) (M 17) (M 18) (M 19 + 1) (M 20) (M 21) (M 22) (M 23) ek eo (M 26) (M 27) (M 28), arI X (d 1) 122 w, arI X (d 6) 500 T]) rfl dX8_command_52 (fun H locs hw => ?_)
      refine lv_aload_n Ex Eb dX8_command_55 rfl (lv_at hl 0 rfl) ?_
      refine lo_callV (q0 := 0) (rest := []) E hK hw (kX8_good l X d (uI (uI (uI M 19 (M 19 + 1)) 24 ek) 25 eo) (show i32 (ek) by omega)) (cwV 0 E.2.2.2.2 gX8_command_X8_good rfl rfl rfl (by decide +kernel) ⟨Nat.le_of_ble_eq_true rfl, Nat.le_of_ble_eq_true rfl⟩) rfl rfl [0] rfl (by decide) hl.1 rfl rfl (Nat.le_of_ble_eq_true rfl) dX8_command_56 ⟨Nat.le_of_ble_eq_true rfl, Nat.le_of_ble_eq_true rfl⟩ (fun v w1 H locs hq hw => ?_)
      obtain ⟨z11, q56_0, rfl, rfl⟩ := hq
      change (z11 = 1 ∧ ek = 0) ∨ (z11 = 0 ∧ ek ≠ 0) at q56_0
      have hw : lo_Wd X ([oX8 (d 0) (M 0) (d 1) (d 2) (M 3) (d 3) (M 5) (d 4) (d 5) (d 6) (M 9) (d 7) (M 11) (M 12) (M 13) (M 14) (M 15) (M 16) (M 17) (M 18) (M 19 + 1) (M 20) (M 21) (M 22) (M 23) ek eo (M 26) (M 27) (M 28), arI X (d 1) 122 w, arI X (d 6) 500 T]) A9 s9.heap H locs := hw
      refine W.eq (g2 := F0 m9 59 ls [.int (iI z11)]) rfl ?_
      refine lo_if_eq (tgt := 66) E dX8_command_59 (by decide) (by omega) (fun c12 => ?_) (fun c12 => ?_)
      · skip
        exact lo_vret E hRt hLk hK hAe hw dX8_command_66 rfl ⟨uI (uI (uI M 19 (M 19 + 1)) 24 ek) 25 eo, w, (by first | exact BDY_eq (BDY_one (c := cw T (M 9) p) (by omega) rfl (by omega) (by have h9 := q63_0; rw [hTR.1] at h9; exact h9)) (q63_1 19 (by omega)) rfl rfl | exact BDY_eq (BDY_none hend hcl (by omega)) rfl (by show ek = 1; omega) (by show eo = toB T (M 9) p; omega) | exact BDY_eq (BDY_many (by omega) (by omega)) rfl (by show ek = 5; omega) (by show eo = toB T (M 9) p; omega)), (by first | exact KPC.tr (KPC_u (by omega) (KPC.rf _)) (KPC_t q63_1) | (repeat (first | exact KPC.rf _ | refine KPC_u (by omega) ?_))), (by first | exact ONE_WI hWI (by omega) (by omega) q63_0 | exact hWI), (by first | (have h9 : N5 19 = M 19 + 1 := q63_1 19 (by omega); omega) | (show (0 ≤ M 20 ∧ M 20 ≤ M 9) ∧ (0 ≤ M 23 ∧ M 23 ≤ 9999999) ∧ (0 ≤ ek ∧ ek ≤ 9) ∧ (0 ≤ M 22 ∧ M 22 ≤ 6) ∧ 0 ≤ M 19 + 1 ∧ M 19 + 1 ≤ 301; omega)), (by first | (have h9 := ONE_p (by omega) (by omega) q63_0; omega) | exact Or.inl (by show ek ≠ 0; omega)), (by first | exact q63_3 | exact fun h9 => absurd (show ek = 0 from h9) (by omega)), rfl, rfl⟩
      · exact absurd c12 (by omega)
  · skip
    refine lv_aload_n Ex Eb dX8_command_10 rfl (lv_at hl 0 rfl) ?_
    refine lo_callVE (q0 := 0) (rest := []) E hK hw hV (kX8_repeatCommand_1 l X kS d M w T p (ht) (hT) (hWI) (hTR) (h24) (hrg) (hp) (hD) (hx) (by omega)) (cwV 0 E.2.2.2.2 gX8_command_X8_repeatCommand rfl rfl rfl (by decide +kernel) ⟨Nat.le_of_ble_eq_true rfl, Nat.le_of_ble_eq_true rfl⟩) rfl rfl [0, 1, 2] rfl (by decide) hl.1 rfl rfl (Nat.le_of_ble_eq_true rfl) dX8_command_11 ⟨Nat.le_of_ble_eq_true rfl, Nat.le_of_ble_eq_true rfl⟩ (fun v w1 H locs hq hw => ?_)
    obtain ⟨N5, u5, q11_0, q11_1, q11_2, q11_3, q11_4, q11_5, rfl, rfl⟩ := hq
    have hw : lo_Wd X ([oX8 (d 0) (N5 0) (d 1) (d 2) (N5 3) (d 3) (N5 5) (d 4) (d 5) (d 6) (N5 9) (d 7) (N5 11) (N5 12) (N5 13) (N5 14) (N5 15) (N5 16) (N5 17) (N5 18) (N5 19) (N5 20) (N5 21) (N5 22) (N5 23) (N5 24) (N5 25) (N5 26) (N5 27) (N5 28), arI X (d 1) 122 u5, arI X (d 6) 500 T]) A9 s9.heap H locs := hw
    refine W.eq (g2 := F0 m9 14 ls []) rfl ?_
    exact lo_vret E hRt hLk hK hAe hw dX8_command_14 rfl ⟨N5, u5, (q11_0), (q11_1), (q11_2), (q11_3), (q11_4), (q11_5), rfl, rfl⟩
set_option maxHeartbeats 2000000 in
set_option maxRecDepth 100000 in
theorem kX8_repeatCommand_0 (l : Launch) (X : KX) (kS : Nat → Nat) (d : Nat → Nat) (M w T : Nat → Int) (p : Int) (ht : 0 ≤ M 9 ∧ M 9 ≤ 500) (hT : ∀ k : Nat, 0 ≤ T k ∧ T k ≤ 255) (hWI : WI w) (hTR : TR T (M 9) p (M 20) (M 21) (M 22) (M 23)) (h24 : M 24 = 0) (hrg : (0 ≤ M 21 ∧ M 21 ≤ M 20 ∧ M 20 ≤ M 9) ∧ (0 ≤ M 22 ∧ M 22 ≤ 6) ∧ 0 ≤ M 23 ∧ M 23 ≤ 9999999) (hp : 0 ≤ p ∧ p ≤ M 9) (hD : M 18 = 0) (hx : 0 ≤ M 19 ∧ M 19 ≤ 300) (hc : cw T (M 9) p = 8) : CE l X kS yX8_repeatCommand wsX8_repeatCommand ({ frames := 19, cells := 0, slots := 0, locals := 382 }) [.ref (d 0)] ([oX8 (d 0) (M 0) (d 1) (d 2) (M 3) (d 3) (M 5) (d 4) (d 5) (d 6) (M 9) (d 7) (M 11) (M 12) (M 13) (M 14) (M 15) (M 16) (M 17) (M 18) (M 19) (M 20) (M 21) (M 22) (M 23) (M 24) (M 25) (M 26) (M 27) (M 28), arI X (d 1) 122 w, arI X (d 6) 500 T]) (fun v9 w9 => ∃ N : Nat → Int, ∃ u : Nat → Int, (BDY T (M 9) (M 18) p (M 19) w (N 20) (N 19) u (N 24) (N 25)) ∧ (KPC M N) ∧ (WI u) ∧ ((0 ≤ N 20 ∧ N 20 ≤ M 9) ∧ (0 ≤ N 23 ∧ N 23 ≤ 9999999) ∧ (0 ≤ N 24 ∧ N 24 ≤ 9) ∧ (0 ≤ N 22 ∧ N 22 ≤ 6) ∧ 0 ≤ N 19 ∧ N 19 ≤ 301) ∧ (N 24 ≠ 0 ∨ p < N 20) ∧ (EO (N 24) (N 25) (M 25)) ∧ v9 = none ∧ w9 = [oX8 (d 0) (N 0) (d 1) (d 2) (N 3) (d 3) (N 5) (d 4) (d 5) (d 6) (N 9) (d 7) (N 11) (N 12) (N 13) (N 14) (N 15) (N 16) (N 17) (N 18) (N 19) (N 20) (N 21) (N 22) (N 23) (N 24) (N 25) (N 26) (N 27) (N 28), arI X (d 1) 122 u, arI X (d 6) 500 T]) 0 0 := by
  refine lo_enterE (cc := cX8_repeatCommand) (maxL := 4) (ret := none) (lv := [(0, .ref (d 0))]) (by decide) rfl rfl (Nat.le_of_ble_eq_true rfl) ?_
  intro p9 e9 s9 m9 bl9 me9 c9 A9 ls hAe E hRt hLk hK hl hw hV
  have Ex := E.1
  have Eb := E.2.1
  have huRX8 : ∀ w ∈ u_ws RX8 TX8 29, w ∈ wsX8_repeatCommand := by decide +kernel
  have hf248 : (Cond.fieldLink RX8 248 "LoanScheduleModel" "depth" "I").before _ s9 = true := E.2.2.2.2 _ (List.mem_of_getElem? (i := 1) rfl)
  have hf199 : (Cond.fieldLink RX8 199 "LoanScheduleModel" "at" "I").before _ s9 = true := E.2.2.2.2 _ (List.mem_of_getElem? (i := 3) rfl)
  have hf205 : (Cond.fieldLink RX8 205 "LoanScheduleModel" "kind" "I").before _ s9 = true := E.2.2.2.2 _ (List.mem_of_getElem? (i := 2) rfl)
  obtain ⟨⟨hn0, hn1⟩, ⟨hb0, hb1⟩, hL⟩ := id hWI
  have hb9 := hTR.2.1
  have htr := TR_r (by omega) hTR
  refine lv_aload_n Ex Eb dX8_repeatCommand_0 rfl (lv_at hl 0 rfl) ?_
  refine lo_get E hK hw huRX8 18 hf248 rfl 0 rfl rfl (by decide) (v := .int (iI (M 18))) rfl dX8_repeatCommand_1 ?_
  refine lv_iconst (v := iI 3) Ex Eb dX8_repeatCommand_4 rfl ?_
  refine lo_icmp_ne (tgt := 13) E dX8_repeatCommand_5 (by decide) (by omega) (by omega) (fun c1 => ?_) (fun c1 => ?_)
  · skip
    refine lv_aload_n Ex Eb dX8_repeatCommand_13 rfl (lv_at hl 0 rfl) ?_
    refine lo_callV (q0 := 0) (rest := []) E hK hw (kX8_advance l X d M T (by omega) (by omega) (by omega) (by omega) (by omega)) (cwV 0 E.2.2.2.2 gX8_repeatCommand_X8_advance rfl rfl rfl (by decide +kernel) ⟨Nat.le_of_ble_eq_true rfl, Nat.le_of_ble_eq_true rfl⟩) rfl rfl [0, 2] rfl (by decide) hl.1 rfl rfl (Nat.le_of_ble_eq_true rfl) dX8_repeatCommand_14 ⟨Nat.le_of_ble_eq_true rfl, Nat.le_of_ble_eq_true rfl⟩ (fun v w1 H locs hq hw => ?_)
    obtain ⟨b1, a1, k1, g1, q14_0, q14_1, rfl, rfl⟩ := hq
    have hw : lo_Wd X ([oX8 (d 0) (M 0) (d 1) (d 2) (M 3) (d 3) (M 5) (d 4) (d 5) (d 6) (M 9) (d 7) (M 11) (M 12) (M 13) (M 14) (M 15) (M 16) (M 17) (M 18) (M 19) a1 b1 k1 g1 (M 24) (M 25) (M 26) (M 27) (M 28), arI X (d 1) 122 w, arI X (d 6) 500 T]) A9 s9.heap H locs := hw
    refine W.eq (g2 := F0 m9 17 ls []) rfl ?_
    have tr1 := ADV_f h24 q14_0
    have rr1 := TR_r (by omega) tr1
    refine lv_aload_n Ex Eb dX8_repeatCommand_17 rfl (lv_at hl 0 rfl) ?_
    refine lv_iconst (v := iI 1) Ex Eb dX8_repeatCommand_18 rfl ?_
    refine lv_bipush (v := iI 24) Ex Eb dX8_repeatCommand_19 rfl ?_
    refine lo_callV (q0 := 0) (rest := []) E hK hw (kX8_number l X d (uI (uI (uI (uI M 20 a1) 21 b1) 22 k1) 23 g1) T 1 24 (show 0 ≤ (M 9) ∧ (M 9) ≤ 500 by omega) (by omega) (show 0 ≤ a1 ∧ a1 ≤ (M 9) by omega) (show 0 ≤ g1 ∧ g1 ≤ 9999999 by omega) (show i32 ((M 24)) by omega) (show i32 (k1) by omega) (by omega) (by omega)) (cwV 2 E.2.2.2.2 gX8_repeatCommand_X8_number rfl rfl rfl (by decide +kernel) ⟨Nat.le_of_ble_eq_true rfl, Nat.le_of_ble_eq_true rfl⟩) rfl rfl [0, 2] rfl (by decide) hl.1 rfl rfl (Nat.le_of_ble_eq_true rfl) dX8_repeatCommand_21 ⟨Nat.le_of_ble_eq_true rfl, Nat.le_of_ble_eq_true rfl⟩ (fun v w1 H locs hq hw => ?_)
    obtain ⟨b2, a2, k2, g2, e2, o2, ti, q21_0, q21_1, rfl, rfl⟩ := hq
    change ((M 24) = 0 ∧ (k1 = 2 ∧ 1 ≤ g1 ∧ g1 ≤ 24) ∧ e2 = 0 ∧ o2 = (M 25) ∧ ti = g1 ∧ b2 = spE pSp T ((M 9)) (a1) ∧ SCN T ((M 9)) b2 (g1) a2 k2 g2) ∨ ((M 24) = 0 ∧ ((k1 ≠ 2 ∧ e2 = 1) ∨ (k1 = 2 ∧ ¬ (1 ≤ g1 ∧ g1 ≤ 24) ∧ e2 = 2)) ∧ o2 = b1 ∧ ti = 0 ∧ a2 = a1 ∧ b2 = b1 ∧ k2 = k1 ∧ g2 = g1) ∨ ((M 24) ≠ 0 ∧ e2 = (M 24) ∧ o2 = (M 25) ∧ ti = 0 ∧ a2 = a1 ∧ b2 = b1 ∧ k2 = k1 ∧ g2 = g1) at q21_0
    change 0 ≤ a2 ∧ a2 ≤ (M 9) ∧ 0 ≤ g2 ∧ g2 ≤ 9999999 at q21_1
    have hw : lo_Wd X ([oX8 (d 0) (M 0) (d 1) (d 2) (M 3) (d 3) (M 5) (d 4) (d 5) (d 6) (M 9) (d 7) (M 11) (M 12) (M 13) (M 14) (M 15) (M 16) (M 17) (M 18) (M 19) a2 b2 k2 g2 e2 o2 (M 26) (M 27) (M 28), arI X (d 1) 122 w, arI X (d 6) 500 T]) A9 s9.heap H locs := hw
    refine W.eq (g2 := F0 m9 24 ls [.int (iI ti)]) rfl ?_
    have nu2 := NUR_i q21_0
    have nk2 := NUR_k nu2 (by omega) (by omega)
    have na2 := NUR_a nu2 (by omega)
    refine lv_istore_n (lv' := [(1, .int (iI ti)), (0, .ref (d 0))]) Ex Eb dX8_repeatCommand_24 rfl hl (by decide) rfl (fun ls hl => ?_)
    have jn38 : ∀ (e3 o3 : Int), ((e2 = 0 ∧ k2 = 5 ∧ e3 = 0 ∧ o3 = o2) ∨ (e2 = 0 ∧ k2 ≠ 5 ∧ e3 = 1 ∧ o3 = b2) ∨ (e2 ≠ 0 ∧ e3 = e2 ∧ o3 = o2)) → ∀ (H : Heap) (locs : List Loc) (ls : Array Slot), lo_Wd X ([oX8 (d 0) (M 0) (d 1) (d 2) (M 3) (d 3) (M 5) (d 4) (d 5) (d 6) (M 9) (d 7) (M 11) (M 12) (M 13) (M 14) (M 15) (M 16) (M 17) (M 18) (M 19) a2 b2 k2 g2 e3 o3 (M 26) (M 27) (M 28), arI X (d 1) 122 w, arI X (d 6) 500 T]) A9 s9.heap H locs → lv_has ls 4 [(0, .ref (d 0)), (1, .int (iI ti))] → W p9 l e9 ({ frames := 19, cells := 0, slots := 0, locals := 382 } : Room) s9 m9 ([.ref (d 0)] : List Value).toArray bl9 me9 c9 H locs 0 0 (MQ bl9 (lo_Qc X ([oX8 (d 0) (M 0) (d 1) (d 2) (M 3) (d 3) (M 5) (d 4) (d 5) (d 6) (M 9) (d 7) (M 11) (M 12) (M 13) (M 14) (M 15) (M 16) (M 17) (M 18) (M 19) (M 20) (M 21) (M 22) (M 23) (M 24) (M 25) (M 26) (M 27) (M 28), arI X (d 1) 122 w, arI X (d 6) 500 T]) s9.heap.size (fun v9 w9 => ∃ N : Nat → Int, ∃ u : Nat → Int, (BDY T (M 9) (M 18) p (M 19) w (N 20) (N 19) u (N 24) (N 25)) ∧ (KPC M N) ∧ (WI u) ∧ ((0 ≤ N 20 ∧ N 20 ≤ M 9) ∧ (0 ≤ N 23 ∧ N 23 ≤ 9999999) ∧ (0 ≤ N 24 ∧ N 24 ≤ 9) ∧ (0 ≤ N 22 ∧ N 22 ≤ 6) ∧ 0 ≤ N 19 ∧ N 19 ≤ 301) ∧ (N 24 ≠ 0 ∨ p < N 20) ∧ (EO (N 24) (N 25) (M 25)) ∧ v9 = none ∧ w9 = [oX8 (d 0) (N 0) (d 1) (d 2) (N 3) (d 3) (N 5) (d 4) (d 5) (d 6) (N 9) (d 7) (N 11) (N 12) (N 13) (N 14) (N 15) (N 16) (N 17) (N 18) (N 19) (N 20) (N 21) (N 22) (N 23) (N 24) (N 25) (N 26) (N 27) (N 28), arI X (d 1) 122 u, arI X (d 6) 500 T])) ([.ref (d 0)] : List Value).toArray s9 0 0 A9) (F0 m9 38 ls []) := by
      intro e3 o3 jn38_0 H locs ls hw hl
      have hxr := EXR tr1 (NUR_0 h24 nu2) jn38_0
      have he3 : 0 ≤ e3 ∧ e3 ≤ 9 := by omega
      have hti : 0 ≤ ti ∧ ti ≤ 24 := by omega
      have ho3 : EO e3 o3 (M 25) := RPO nu2 jn38_0
      clear jn38_0 nu2 q21_0 q14_0
      refine lv_aload_n Ex Eb dX8_repeatCommand_38 rfl (lv_at hl 0 rfl) ?_
      refine lo_get E hK hw huRX8 20 hf199 rfl 0 rfl rfl (by decide) (v := .int (iI a2)) rfl dX8_repeatCommand_39 ?_
      refine lv_istore_n (lv' := [(2, .int (iI a2)), (0, .ref (d 0)), (1, .int (iI ti))]) Ex Eb dX8_repeatCommand_42 rfl hl (by decide) rfl (fun ls hl => ?_)
      refine lv_aload_n Ex Eb dX8_repeatCommand_43 rfl (lv_at hl 1 rfl) ?_
      refine lv_dup Ex Eb dX8_repeatCommand_44 rfl ?_
      refine lo_get E hK hw huRX8 18 hf248 rfl 0 rfl rfl (by decide) (v := .int (iI (M 18))) rfl dX8_repeatCommand_45 ?_
      refine lv_iconst (v := iI 1) Ex Eb dX8_repeatCommand_48 rfl ?_
      refine lo_iadd E dX8_repeatCommand_49 ?_
      refine lo_put E hK hw huRX8 tyX8 tyX8_ok nmX8 18 hf248 rfl 0 rfl rfl (by decide) rfl rfl rfl rfl (Nat.le_of_ble_eq_true rfl) (ws' := [oX8 (d 0) (M 0) (d 1) (d 2) (M 3) (d 3) (M 5) (d 4) (d 5) (d 6) (M 9) (d 7) (M 11) (M 12) (M 13) (M 14) (M 15) (M 16) (M 17) (M 18 + 1) (M 19) a2 b2 k2 g2 e3 o3 (M 26) (M 27) (M 28), arI X (d 1) 122 w, arI X (d 6) 500 T]) rfl dX8_repeatCommand_50 (fun H locs hw => ?_)
      refine lv_iconst (v := iI 0) Ex Eb dX8_repeatCommand_53 rfl ?_
      refine lv_istore_n (lv' := [(3, .int (iI 0)), (2, .int (iI a2)), (0, .ref (d 0)), (1, .int (iI ti))]) Ex Eb dX8_repeatCommand_54 rfl hl (by decide) rfl (fun ls hl => ?_)
      have lp55 : ∀ (n : Nat) (K u : Nat → Int) (ix : Int), (ti - ix).toNat < n → (OI T (M 9) (M 18) p (M 19) w a2 ti ix (K 20) (K 19) u (K 24) (K 25)) → (KPC (uI M 18 (M 18 + 1)) K) → (WI u) → ((0 ≤ K 20 ∧ K 20 ≤ M 9) ∧ (0 ≤ K 23 ∧ K 23 ≤ 9999999) ∧ (0 ≤ K 24 ∧ K 24 ≤ 9) ∧ (0 ≤ K 22 ∧ K 22 ≤ 6) ∧ 0 ≤ K 19 ∧ K 19 ≤ 301) → (0 ≤ ix ∧ ix ≤ 10000000) → (K 24 ≠ 0 ∨ p ≤ K 20) → (EO (K 24) (K 25) (M 25)) → ∀ (H : Heap) (locs : List Loc) (ls : Array Slot), lo_Wd X ([oX8 (d 0) (K 0) (d 1) (d 2) (K 3) (d 3) (K 5) (d 4) (d 5) (d 6) (K 9) (d 7) (K 11) (K 12) (K 13) (K 14) (K 15) (K 16) (K 17) (K 18) (K 19) (K 20) (K 21) (K 22) (K 23) (K 24) (K 25) (K 26) (K 27) (K 28), arI X (d 1) 122 u, arI X (d 6) 500 T]) A9 s9.heap H locs → lv_has ls 4 [(0, .ref (d 0)), (1, .int (iI ti)), (2, .int (iI a2)), (3, .int (iI ix))] → W p9 l e9 ({ frames := 19, cells := 0, slots := 0, locals := 382 } : Room) s9 m9 ([.ref (d 0)] : List Value).toArray bl9 me9 c9 H locs 0 0 (MQ bl9 (lo_Qc X ([oX8 (d 0) (M 0) (d 1) (d 2) (M 3) (d 3) (M 5) (d 4) (d 5) (d 6) (M 9) (d 7) (M 11) (M 12) (M 13) (M 14) (M 15) (M 16) (M 17) (M 18) (M 19) (M 20) (M 21) (M 22) (M 23) (M 24) (M 25) (M 26) (M 27) (M 28), arI X (d 1) 122 w, arI X (d 6) 500 T]) s9.heap.size (fun v9 w9 => ∃ N : Nat → Int, ∃ u : Nat → Int, (BDY T (M 9) (M 18) p (M 19) w (N 20) (N 19) u (N 24) (N 25)) ∧ (KPC M N) ∧ (WI u) ∧ ((0 ≤ N 20 ∧ N 20 ≤ M 9) ∧ (0 ≤ N 23 ∧ N 23 ≤ 9999999) ∧ (0 ≤ N 24 ∧ N 24 ≤ 9) ∧ (0 ≤ N 22 ∧ N 22 ≤ 6) ∧ 0 ≤ N 19 ∧ N 19 ≤ 301) ∧ (N 24 ≠ 0 ∨ p < N 20) ∧ (EO (N 24) (N 25) (M 25)) ∧ v9 = none ∧ w9 = [oX8 (d 0) (N 0) (d 1) (d 2) (N 3) (d 3) (N 5) (d 4) (d 5) (d 6) (N 9) (d 7) (N 11) (N 12) (N 13) (N 14) (N 15) (N 16) (N 17) (N 18) (N 19) (N 20) (N 21) (N 22) (N 23) (N 24) (N 25) (N 26) (N 27) (N 28), arI X (d 1) 122 u, arI X (d 6) 500 T])) ([.ref (d 0)] : List Value).toArray s9 0 0 A9) (F0 m9 55 ls []) := by
        intro n
        induction n with
        | zero => intro K u ix hn; exact absurd hn (Nat.not_lt_zero _)
        | succ n ih55 =>
          intro K u ix hn55 iv55_0 iv55_1 iv55_2 iv55_3 iv55_4 iv55_5 iv55_6 H locs ls hw hl
          have hK9 : K 9 = M 9 := iv55_1 9 (by omega)
          have hK18 : K 18 = M 18 + 1 := iv55_1 18 (by omega)
          refine lv_iload_n Ex Eb dX8_repeatCommand_55 rfl (lv_at hl 3 rfl) ?_
          refine lv_iload_n Ex Eb dX8_repeatCommand_56 rfl (lv_at hl 1 rfl) ?_
          refine lo_icmp_ge (tgt := 109) E dX8_repeatCommand_57 (by decide) (by omega) (by omega) (fun c2 => ?_) (fun c2 => ?_)
          · skip
            refine lv_aload_n Ex Eb dX8_repeatCommand_109 rfl (lv_at hl 0 rfl) ?_
            refine lv_dup Ex Eb dX8_repeatCommand_110 rfl ?_
            refine lo_get E hK hw huRX8 18 hf248 rfl 0 rfl rfl (by decide) (v := .int (iI (K 18))) rfl dX8_repeatCommand_111 ?_
            refine lv_iconst (v := iI 1) Ex Eb dX8_repeatCommand_114 rfl ?_
            refine lo_isub E dX8_repeatCommand_115 ?_
            refine lo_put E hK hw huRX8 tyX8 tyX8_ok nmX8 18 hf248 rfl 0 rfl rfl (by decide) rfl rfl rfl rfl (Nat.le_of_ble_eq_true rfl) (ws' := [oX8 (d 0) (K 0) (d 1) (d 2) (K 3) (d 3) (K 5) (d 4) (d 5) (d 6) (K 9) (d 7) (K 11) (K 12) (K 13) (K 14) (K 15) (K 16) (K 17) (K 18 - 1) (K 19) (K 20) (K 21) (K 22) (K 23) (K 24) (K 25) (K 26) (K 27) (K 28), arI X (d 1) 122 u, arI X (d 6) 500 T]) rfl dX8_repeatCommand_116 (fun H locs hw => ?_)
            refine lv_aload_n Ex Eb dX8_repeatCommand_119 rfl (lv_at hl 0 rfl) ?_
            refine lo_callV (q0 := 0) (rest := []) E hK hw (kX8_advance l X d (uI K 18 (K 18 - 1)) T (show 0 ≤ (K 9) ∧ (K 9) ≤ 500 by omega) (by omega) (show 0 ≤ (K 20) ∧ (K 20) ≤ (K 9) by omega) (show 0 ≤ (K 23) ∧ (K 23) ≤ 9999999 by omega) (show i32 ((K 24)) by omega)) (cwV 0 E.2.2.2.2 gX8_repeatCommand_X8_advance rfl rfl rfl (by decide +kernel) ⟨Nat.le_of_ble_eq_true rfl, Nat.le_of_ble_eq_true rfl⟩) rfl rfl [0, 2] rfl (by decide) hl.1 rfl rfl (Nat.le_of_ble_eq_true rfl) dX8_repeatCommand_120 ⟨Nat.le_of_ble_eq_true rfl, Nat.le_of_ble_eq_true rfl⟩ (fun v w1 H locs hq hw => ?_)
            obtain ⟨b6, a6, k6, g6, q120_0, q120_1, rfl, rfl⟩ := hq
            change ((K 24) = 0 ∧ b6 = spE pSp T ((K 9)) ((K 20)) ∧ SCN T ((K 9)) b6 ((K 23)) a6 k6 g6) ∨ ((K 24) ≠ 0 ∧ a6 = (K 20) ∧ b6 = (K 21) ∧ k6 = (K 22) ∧ g6 = (K 23)) at q120_0
            change 0 ≤ a6 ∧ a6 ≤ (K 9) ∧ 0 ≤ g6 ∧ g6 ≤ 9999999 at q120_1
            have ak6 := ADV_k q120_0 (by omega) (by omega)
            have hw : lo_Wd X ([oX8 (d 0) (K 0) (d 1) (d 2) (K 3) (d 3) (K 5) (d 4) (d 5) (d 6) (K 9) (d 7) (K 11) (K 12) (K 13) (K 14) (K 15) (K 16) (K 17) (K 18 - 1) (K 19) a6 b6 k6 g6 (K 24) (K 25) (K 26) (K 27) (K 28), arI X (d 1) 122 u, arI X (d 6) 500 T]) A9 s9.heap H locs := hw
            refine W.eq (g2 := F0 m9 123 ls []) rfl ?_
            refine lv_aload_n Ex Eb dX8_repeatCommand_123 rfl (lv_at hl 0 rfl) ?_
            refine lv_iconst (v := iI 1) Ex Eb dX8_repeatCommand_124 rfl ?_
            refine lo_callV (q0 := 0) (rest := []) E hK hw (kX8_ends l X d (uI (uI (uI (uI (uI K 18 (K 18 - 1)) 20 a6) 21 b6) 22 k6) 23 g6) 1 (show i32 ((K 24)) by omega) (show i32 (k6) by omega) (by omega)) (cwV 1 E.2.2.2.2 gX8_repeatCommand_X8_ends rfl rfl rfl (by decide +kernel) ⟨Nat.le_of_ble_eq_true rfl, Nat.le_of_ble_eq_true rfl⟩) rfl rfl [0] rfl (by decide) hl.1 rfl rfl (Nat.le_of_ble_eq_true rfl) dX8_repeatCommand_125 ⟨Nat.le_of_ble_eq_true rfl, Nat.le_of_ble_eq_true rfl⟩ (fun v w1 H locs hq hw => ?_)
            obtain ⟨ek, eo, zz, q125_0, rfl, rfl⟩ := hq
            change ((K 24) ≠ 0 ∧ ek = (K 24) ∧ eo = (K 25) ∧ zz = 0) ∨ ((K 24) = 0 ∧ k6 ≠ 1 ∧ ek = 1 ∧ eo = b6 ∧ zz = 0) ∨ ((K 24) = 0 ∧ k6 = 1 ∧ 1 = 0 ∧ ek = 3 ∧ eo = b6 ∧ zz = 0) ∨ ((K 24) = 0 ∧ k6 = 1 ∧ 1 = 1 ∧ ek = 0 ∧ eo = (K 25) ∧ zz = 1) at q125_0
            have hw : lo_Wd X ([oX8 (d 0) (K 0) (d 1) (d 2) (K 3) (d 3) (K 5) (d 4) (d 5) (d 6) (K 9) (d 7) (K 11) (K 12) (K 13) (K 14) (K 15) (K 16) (K 17) (K 18 - 1) (K 19) a6 b6 k6 g6 ek eo (K 26) (K 27) (K 28), arI X (d 1) 122 u, arI X (d 6) 500 T]) A9 s9.heap H locs := hw
            refine W.eq (g2 := F0 m9 128 ls [.int (iI zz)]) rfl ?_
            refine lv_istore_n (lv' := [(3, .int (iI zz)), (0, .ref (d 0)), (1, .int (iI ti)), (2, .int (iI a2))]) Ex Eb dX8_repeatCommand_128 rfl hl (by decide) rfl (fun ls hl => ?_)
            rw [hK9] at q120_0
            have hre := RP_end (by omega) iv55_0 (by omega) q120_0 q125_0
            exact lo_vret E hRt hLk hK hAe hw dX8_repeatCommand_129 rfl ⟨uI (uI (uI (uI (uI (uI (uI K 18 (K 18 - 1)) 20 a6) 21 b6) 22 k6) 23 g6) 24 ek) 25 eo, u, (hre.1), (by repeat (first | refine KPC_u (by omega) ?_ | exact KPC_d2 (by omega) iv55_1)), (iv55_2), (by show (0 ≤ a6 ∧ a6 ≤ M 9) ∧ (0 ≤ g6 ∧ g6 ≤ 9999999) ∧ (0 ≤ ek ∧ ek ≤ 9) ∧ (0 ≤ k6 ∧ k6 ≤ 6) ∧ 0 ≤ K 19 ∧ K 19 ≤ 301; omega), (by have h9 := hre.2; show ek ≠ 0 ∨ p < a6; omega), (fun h9 => (ENR_o q125_0 h9).2.trans (iv55_6 (ENR_o q125_0 h9).1)), rfl, rfl⟩
          · skip
            refine lv_aload_n Ex Eb dX8_repeatCommand_60 rfl (lv_at hl 0 rfl) ?_
            refine lo_callV (q0 := 0) (rest := []) E hK hw (kX8_good l X d K (by omega)) (cwV 0 E.2.2.2.2 gX8_repeatCommand_X8_good rfl rfl rfl (by decide +kernel) ⟨Nat.le_of_ble_eq_true rfl, Nat.le_of_ble_eq_true rfl⟩) rfl rfl [0] rfl (by decide) hl.1 rfl rfl (Nat.le_of_ble_eq_true rfl) dX8_repeatCommand_61 ⟨Nat.le_of_ble_eq_true rfl, Nat.le_of_ble_eq_true rfl⟩ (fun v w1 H locs hq hw => ?_)
            obtain ⟨z3, q61_0, rfl, rfl⟩ := hq
            have hw : lo_Wd X ([oX8 (d 0) (K 0) (d 1) (d 2) (K 3) (d 3) (K 5) (d 4) (d 5) (d 6) (K 9) (d 7) (K 11) (K 12) (K 13) (K 14) (K 15) (K 16) (K 17) (K 18) (K 19) (K 20) (K 21) (K 22) (K 23) (K 24) (K 25) (K 26) (K 27) (K 28), arI X (d 1) 122 u, arI X (d 6) 500 T]) A9 s9.heap H locs := hw
            refine W.eq (g2 := F0 m9 64 ls [.int (iI z3)]) rfl ?_
            refine lo_if_eq (tgt := 109) E dX8_repeatCommand_64 (by decide) (by omega) (fun c4 => ?_) (fun c4 => ?_)
            · skip
              refine lv_aload_n Ex Eb dX8_repeatCommand_109 rfl (lv_at hl 0 rfl) ?_
              refine lv_dup Ex Eb dX8_repeatCommand_110 rfl ?_
              refine lo_get E hK hw huRX8 18 hf248 rfl 0 rfl rfl (by decide) (v := .int (iI (K 18))) rfl dX8_repeatCommand_111 ?_
              refine lv_iconst (v := iI 1) Ex Eb dX8_repeatCommand_114 rfl ?_
              refine lo_isub E dX8_repeatCommand_115 ?_
              refine lo_put E hK hw huRX8 tyX8 tyX8_ok nmX8 18 hf248 rfl 0 rfl rfl (by decide) rfl rfl rfl rfl (Nat.le_of_ble_eq_true rfl) (ws' := [oX8 (d 0) (K 0) (d 1) (d 2) (K 3) (d 3) (K 5) (d 4) (d 5) (d 6) (K 9) (d 7) (K 11) (K 12) (K 13) (K 14) (K 15) (K 16) (K 17) (K 18 - 1) (K 19) (K 20) (K 21) (K 22) (K 23) (K 24) (K 25) (K 26) (K 27) (K 28), arI X (d 1) 122 u, arI X (d 6) 500 T]) rfl dX8_repeatCommand_116 (fun H locs hw => ?_)
              refine lv_aload_n Ex Eb dX8_repeatCommand_119 rfl (lv_at hl 0 rfl) ?_
              refine lo_callV (q0 := 0) (rest := []) E hK hw (kX8_advance l X d (uI K 18 (K 18 - 1)) T (show 0 ≤ (K 9) ∧ (K 9) ≤ 500 by omega) (by omega) (show 0 ≤ (K 20) ∧ (K 20) ≤ (K 9) by omega) (show 0 ≤ (K 23) ∧ (K 23) ≤ 9999999 by omega) (show i32 ((K 24)) by omega)) (cwV 0 E.2.2.2.2 gX8_repeatCommand_X8_advance rfl rfl rfl (by decide +kernel) ⟨Nat.le_of_ble_eq_true rfl, Nat.le_of_ble_eq_true rfl⟩) rfl rfl [0, 2] rfl (by decide) hl.1 rfl rfl (Nat.le_of_ble_eq_true rfl) dX8_repeatCommand_120 ⟨Nat.le_of_ble_eq_true rfl, Nat.le_of_ble_eq_true rfl⟩ (fun v w1 H locs hq hw => ?_)
              obtain ⟨b6, a6, k6, g6, q120_0, q120_1, rfl, rfl⟩ := hq
              change ((K 24) = 0 ∧ b6 = spE pSp T ((K 9)) ((K 20)) ∧ SCN T ((K 9)) b6 ((K 23)) a6 k6 g6) ∨ ((K 24) ≠ 0 ∧ a6 = (K 20) ∧ b6 = (K 21) ∧ k6 = (K 22) ∧ g6 = (K 23)) at q120_0
              change 0 ≤ a6 ∧ a6 ≤ (K 9) ∧ 0 ≤ g6 ∧ g6 ≤ 9999999 at q120_1
              have ak6 := ADV_k q120_0 (by omega) (by omega)
              have hw : lo_Wd X ([oX8 (d 0) (K 0) (d 1) (d 2) (K 3) (d 3) (K 5) (d 4) (d 5) (d 6) (K 9) (d 7) (K 11) (K 12) (K 13) (K 14) (K 15) (K 16) (K 17) (K 18 - 1) (K 19) a6 b6 k6 g6 (K 24) (K 25) (K 26) (K 27) (K 28), arI X (d 1) 122 u, arI X (d 6) 500 T]) A9 s9.heap H locs := hw
              refine W.eq (g2 := F0 m9 123 ls []) rfl ?_
              refine lv_aload_n Ex Eb dX8_repeatCommand_123 rfl (lv_at hl 0 rfl) ?_
              refine lv_iconst (v := iI 1) Ex Eb dX8_repeatCommand_124 rfl ?_
              refine lo_callV (q0 := 0) (rest := []) E hK hw (kX8_ends l X d (uI (uI (uI (uI (uI K 18 (K 18 - 1)) 20 a6) 21 b6) 22 k6) 23 g6) 1 (show i32 ((K 24)) by omega) (show i32 (k6) by omega) (by omega)) (cwV 1 E.2.2.2.2 gX8_repeatCommand_X8_ends rfl rfl rfl (by decide +kernel) ⟨Nat.le_of_ble_eq_true rfl, Nat.le_of_ble_eq_true rfl⟩) rfl rfl [0] rfl (by decide) hl.1 rfl rfl (Nat.le_of_ble_eq_true rfl) dX8_repeatCommand_125 ⟨Nat.le_of_ble_eq_true rfl, Nat.le_of_ble_eq_true rfl⟩ (fun v w1 H locs hq hw => ?_)
              obtain ⟨ek, eo, zz, q125_0, rfl, rfl⟩ := hq
              change ((K 24) ≠ 0 ∧ ek = (K 24) ∧ eo = (K 25) ∧ zz = 0) ∨ ((K 24) = 0 ∧ k6 ≠ 1 ∧ ek = 1 ∧ eo = b6 ∧ zz = 0) ∨ ((K 24) = 0 ∧ k6 = 1 ∧ 1 = 0 ∧ ek = 3 ∧ eo = b6 ∧ zz = 0) ∨ ((K 24) = 0 ∧ k6 = 1 ∧ 1 = 1 ∧ ek = 0 ∧ eo = (K 25) ∧ zz = 1) at q125_0
              have hw : lo_Wd X ([oX8 (d 0) (K 0) (d 1) (d 2) (K 3) (d 3) (K 5) (d 4) (d 5) (d 6) (K 9) (d 7) (K 11) (K 12) (K 13) (K 14) (K 15) (K 16) (K 17) (K 18 - 1) (K 19) a6 b6 k6 g6 ek eo (K 26) (K 27) (K 28), arI X (d 1) 122 u, arI X (d 6) 500 T]) A9 s9.heap H locs := hw
              refine W.eq (g2 := F0 m9 128 ls [.int (iI zz)]) rfl ?_
              refine lv_istore_n (lv' := [(3, .int (iI zz)), (0, .ref (d 0)), (1, .int (iI ti)), (2, .int (iI a2))]) Ex Eb dX8_repeatCommand_128 rfl hl (by decide) rfl (fun ls hl => ?_)
              rw [hK9] at q120_0
              have hre := RP_end (by omega) iv55_0 (by omega) q120_0 q125_0
              exact lo_vret E hRt hLk hK hAe hw dX8_repeatCommand_129 rfl ⟨uI (uI (uI (uI (uI (uI (uI K 18 (K 18 - 1)) 20 a6) 21 b6) 22 k6) 23 g6) 24 ek) 25 eo, u, (hre.1), (by repeat (first | refine KPC_u (by omega) ?_ | exact KPC_d2 (by omega) iv55_1)), (iv55_2), (by show (0 ≤ a6 ∧ a6 ≤ M 9) ∧ (0 ≤ g6 ∧ g6 ≤ 9999999) ∧ (0 ≤ ek ∧ ek ≤ 9) ∧ (0 ≤ k6 ∧ k6 ≤ 6) ∧ 0 ≤ K 19 ∧ K 19 ≤ 301; omega), (by have h9 := hre.2; show ek ≠ 0 ∨ p < a6; omega), (fun h9 => (ENR_o q125_0 h9).2.trans (iv55_6 (ENR_o q125_0 h9).1)), rfl, rfl⟩
            · skip
              have hx9 : K 19 ≤ 300 := OI_x (by omega) iv55_0
              refine lv_aload_n Ex Eb dX8_repeatCommand_67 rfl (lv_at hl 0 rfl) ?_
              refine lv_iload_n Ex Eb dX8_repeatCommand_68 rfl (lv_at hl 2 rfl) ?_
              refine lo_put E hK hw huRX8 tyX8 tyX8_ok nmX8 20 hf199 rfl 0 rfl rfl (by decide) rfl rfl rfl rfl (Nat.le_of_ble_eq_true rfl) (ws' := [oX8 (d 0) (K 0) (d 1) (d 2) (K 3) (d 3) (K 5) (d 4) (d 5) (d 6) (K 9) (d 7) (K 11) (K 12) (K 13) (K 14) (K 15) (K 16) (K 17) (K 18) (K 19) a2 (K 21) (K 22) (K 23) (K 24) (K 25) (K 26) (K 27) (K 28), arI X (d 1) 122 u, arI X (d 6) 500 T]) rfl dX8_repeatCommand_69 (fun H locs hw => ?_)
              refine lv_aload_n Ex Eb dX8_repeatCommand_72 rfl (lv_at hl 0 rfl) ?_
              refine lo_callV (q0 := 0) (rest := []) E hK hw (kX8_scan l X d (uI K 20 a2) T (show 0 ≤ (K 9) ∧ (K 9) ≤ 500 by omega) (by omega) (show 0 ≤ a2 ∧ a2 ≤ (K 9) by omega) (show 0 ≤ (K 23) ∧ (K 23) ≤ 9999999 by omega)) (cwV 0 E.2.2.2.2 gX8_repeatCommand_X8_scan rfl rfl rfl (by decide +kernel) ⟨Nat.le_of_ble_eq_true rfl, Nat.le_of_ble_eq_true rfl⟩) rfl rfl [0, 2] rfl (by decide) hl.1 rfl rfl (Nat.le_of_ble_eq_true rfl) dX8_repeatCommand_73 ⟨Nat.le_of_ble_eq_true rfl, Nat.le_of_ble_eq_true rfl⟩ (fun v w1 H locs hq hw => ?_)
              obtain ⟨a4, k4, g4, q73_0, q73_1, rfl, rfl⟩ := hq
              change SCN T ((K 9)) (spE pSp T ((K 9)) (a2)) ((K 23)) a4 k4 g4 at q73_0
              change (a2 ≤ spE pSp T ((K 9)) (a2) ∧ spE pSp T ((K 9)) (a2) ≤ a4 ∧ a4 ≤ (K 9)) ∧ 0 ≤ g4 ∧ g4 ≤ 9999999 at q73_1
              have rr4 := TR_r (T := T) (n := K 9) (p := a2) (by omega) (TR_sc rfl q73_0)
              have hw : lo_Wd X ([oX8 (d 0) (K 0) (d 1) (d 2) (K 3) (d 3) (K 5) (d 4) (d 5) (d 6) (K 9) (d 7) (K 11) (K 12) (K 13) (K 14) (K 15) (K 16) (K 17) (K 18) (K 19) a4 (spE pSp T (K 9) a2) k4 g4 (K 24) (K 25) (K 26) (K 27) (K 28), arI X (d 1) 122 u, arI X (d 6) 500 T]) A9 s9.heap H locs := hw
              refine W.eq (g2 := F0 m9 76 ls []) rfl ?_
              have lp76 : ∀ (n : Nat) (J v : Nat → Int) (q : Int), MS (J 24) q (M 9) < n → (J 24 = 0 → TR T (M 9) q (J 20) (J 21) (J 22) (J 23)) → (BDY T (M 9) (M 18 + 1) a2 (K 19) u q (J 19) v (J 24) (J 25)) → (KPC (uI M 18 (M 18 + 1)) J) → (WI v) → (J 24 ≠ 0 ∨ (a2 ≤ q ∧ q ≤ M 9)) → ((0 ≤ J 20 ∧ J 20 ≤ M 9) ∧ (0 ≤ J 23 ∧ J 23 ≤ 9999999) ∧ (0 ≤ J 24 ∧ J 24 ≤ 9) ∧ (0 ≤ J 22 ∧ J 22 ≤ 6) ∧ 0 ≤ J 19 ∧ J 19 ≤ 301) → (J 24 ≠ 0 ∨ J 19 ≤ 300) → (EO (J 24) (J 25) (M 25)) → ∀ (H : Heap) (locs : List Loc) (ls : Array Slot), lo_Wd X ([oX8 (d 0) (J 0) (d 1) (d 2) (J 3) (d 3) (J 5) (d 4) (d 5) (d 6) (J 9) (d 7) (J 11) (J 12) (J 13) (J 14) (J 15) (J 16) (J 17) (J 18) (J 19) (J 20) (J 21) (J 22) (J 23) (J 24) (J 25) (J 26) (J 27) (J 28), arI X (d 1) 122 v, arI X (d 6) 500 T]) A9 s9.heap H locs → lv_has ls 4 [(0, .ref (d 0)), (1, .int (iI ti)), (2, .int (iI a2)), (3, .int (iI ix))] → W p9 l e9 ({ frames := 19, cells := 0, slots := 0, locals := 382 } : Room) s9 m9 ([.ref (d 0)] : List Value).toArray bl9 me9 c9 H locs 0 0 (MQ bl9 (lo_Qc X ([oX8 (d 0) (M 0) (d 1) (d 2) (M 3) (d 3) (M 5) (d 4) (d 5) (d 6) (M 9) (d 7) (M 11) (M 12) (M 13) (M 14) (M 15) (M 16) (M 17) (M 18) (M 19) (M 20) (M 21) (M 22) (M 23) (M 24) (M 25) (M 26) (M 27) (M 28), arI X (d 1) 122 w, arI X (d 6) 500 T]) s9.heap.size (fun v9 w9 => ∃ N : Nat → Int, ∃ u : Nat → Int, (BDY T (M 9) (M 18) p (M 19) w (N 20) (N 19) u (N 24) (N 25)) ∧ (KPC M N) ∧ (WI u) ∧ ((0 ≤ N 20 ∧ N 20 ≤ M 9) ∧ (0 ≤ N 23 ∧ N 23 ≤ 9999999) ∧ (0 ≤ N 24 ∧ N 24 ≤ 9) ∧ (0 ≤ N 22 ∧ N 22 ≤ 6) ∧ 0 ≤ N 19 ∧ N 19 ≤ 301) ∧ (N 24 ≠ 0 ∨ p < N 20) ∧ (EO (N 24) (N 25) (M 25)) ∧ v9 = none ∧ w9 = [oX8 (d 0) (N 0) (d 1) (d 2) (N 3) (d 3) (N 5) (d 4) (d 5) (d 6) (N 9) (d 7) (N 11) (N 12) (N 13) (N 14) (N 15) (N 16) (N 17) (N 18) (N 19) (N 20) (N 21) (N 22) (N 23) (N 24) (N 25) (N 26) (N 27) (N 28), arI X (d 1) 122 u, arI X (d 6) 500 T])) ([.ref (d 0)] : List Value).toArray s9 0 0 A9) (F0 m9 76 ls []) := by
                intro n
                induction n with
                | zero => intro J v q hn; exact absurd hn (Nat.not_lt_zero _)
                | succ n ih76 =>
                  intro J v q hn76 iv76_0 iv76_1 iv76_2 iv76_3 iv76_4 iv76_5 iv76_6 iv76_7 H locs ls hw hl
                  have hJ9 : J 9 = M 9 := iv76_2 9 (by omega)
                  have hJ18 : J 18 = M 18 + 1 := iv76_2 18 (by omega)
                  refine lv_aload_n Ex Eb dX8_repeatCommand_76 rfl (lv_at hl 0 rfl) ?_
                  refine lo_callV (q0 := 0) (rest := []) E hK hw (kX8_good l X d J (by omega)) (cwV 0 E.2.2.2.2 gX8_repeatCommand_X8_good rfl rfl rfl (by decide +kernel) ⟨Nat.le_of_ble_eq_true rfl, Nat.le_of_ble_eq_true rfl⟩) rfl rfl [0] rfl (by decide) hl.1 rfl rfl (Nat.le_of_ble_eq_true rfl) dX8_repeatCommand_77 ⟨Nat.le_of_ble_eq_true rfl, Nat.le_of_ble_eq_true rfl⟩ (fun v w1 H locs hq hw => ?_)
                  obtain ⟨z5, q77_0, rfl, rfl⟩ := hq
                  have hw : lo_Wd X ([oX8 (d 0) (J 0) (d 1) (d 2) (J 3) (d 3) (J 5) (d 4) (d 5) (d 6) (J 9) (d 7) (J 11) (J 12) (J 13) (J 14) (J 15) (J 16) (J 17) (J 18) (J 19) (J 20) (J 21) (J 22) (J 23) (J 24) (J 25) (J 26) (J 27) (J 28), arI X (d 1) 122 v, arI X (d 6) 500 T]) A9 s9.heap H locs := hw
                  refine W.eq (g2 := F0 m9 80 ls [.int (iI z5)]) rfl ?_
                  refine lo_if_eq (tgt := 103) E dX8_repeatCommand_80 (by decide) (by omega) (fun c6 => ?_) (fun c6 => ?_)
                  · skip
                    try have tq := iv76_0 (by omega)
                    try have rq := TR_r (by omega) tq
                    refine lo_iinc (lv' := [(3, .int (iI (ix + 1))), (0, .ref (d 0)), (1, .int (iI ti)), (2, .int (iI a2))]) E dX8_repeatCommand_103 hl (k := 3) rfl (by decide) rfl (fun ls hl => ?_)
                    refine lv_goto (tgt := 55) Ex Eb dX8_repeatCommand_106 (by decide) ?_
                    exact ih55 J v (ix + 1) (by omega) (by first | exact OI_step (by omega) (by omega) (fun h => absurd h (by omega)) iv55_0 (by omega) iv76_1 | exact OI_step (by omega) (by omega) (fun h => ⟨tq.1, by omega, TR_cl tq (by omega)⟩) iv55_0 (by omega) iv76_1) (iv76_2) (iv76_3) (iv76_5) (by omega) (by first | exact Or.inl (by omega) | (exact Or.inr (by omega))) (iv76_7) _ _ _ hw (lv_sub hl [1, 2, 3, 0] rfl)
                  · skip
                    refine lv_aload_n Ex Eb dX8_repeatCommand_83 rfl (lv_at hl 0 rfl) ?_
                    refine lo_get E hK hw huRX8 22 hf205 rfl 0 rfl rfl (by decide) (v := .int (iI (J 22))) rfl dX8_repeatCommand_84 ?_
                    refine lv_bipush (v := iI 6) Ex Eb dX8_repeatCommand_87 rfl ?_
                    refine lo_icmp_eq (tgt := 103) E dX8_repeatCommand_89 (by decide) (by omega) (by omega) (fun c7 => ?_) (fun c7 => ?_)
                    · skip
                      try have tq := iv76_0 (by omega)
                      try have rq := TR_r (by omega) tq
                      refine lo_iinc (lv' := [(3, .int (iI (ix + 1))), (0, .ref (d 0)), (1, .int (iI ti)), (2, .int (iI a2))]) E dX8_repeatCommand_103 hl (k := 3) rfl (by decide) rfl (fun ls hl => ?_)
                      refine lv_goto (tgt := 55) Ex Eb dX8_repeatCommand_106 (by decide) ?_
                      exact ih55 J v (ix + 1) (by omega) (by first | exact OI_step (by omega) (by omega) (fun h => absurd h (by omega)) iv55_0 (by omega) iv76_1 | exact OI_step (by omega) (by omega) (fun h => ⟨tq.1, by omega, TR_cl tq (by omega)⟩) iv55_0 (by omega) iv76_1) (iv76_2) (iv76_3) (iv76_5) (by omega) (by first | exact Or.inl (by omega) | (exact Or.inr (by omega))) (iv76_7) _ _ _ hw (lv_sub hl [1, 2, 3, 0] rfl)
                    · skip
                      have tq := iv76_0 (by omega)
                      have rq := TR_r (by omega) tq
                      refine lv_aload_n Ex Eb dX8_repeatCommand_92 rfl (lv_at hl 0 rfl) ?_
                      refine lo_callVE (q0 := 0) (rest := []) E hK hw hV (kX8_command_1 l X kS d J v T q (by omega) (hT) (iv76_3) (by rw [hJ9]; exact tq) (by omega) (by omega) (by omega) (by omega) (by omega) (fun h9 => absurd h9.2 (by omega)) (by rw [hJ9]; exact TR_ncl tq (by omega))) (cwV 0 E.2.2.2.2 gX8_repeatCommand_X8_command rfl rfl rfl (by decide +kernel) ⟨Nat.le_of_ble_eq_true rfl, Nat.le_of_ble_eq_true rfl⟩) rfl rfl [0, 1, 2] rfl (by decide) hl.1 rfl rfl (Nat.le_of_ble_eq_true rfl) dX8_repeatCommand_93 ⟨Nat.le_of_ble_eq_true rfl, Nat.le_of_ble_eq_true rfl⟩ (fun v w1 H locs hq hw => ?_)
                      obtain ⟨N5, u5, q93_0, q93_1, q93_2, q93_3, q93_4, q93_5, rfl, rfl⟩ := hq
                      have hN9 : N5 9 = M 9 := (q93_1 9 (by omega)).trans hJ9
                      have hw : lo_Wd X ([oX8 (d 0) (N5 0) (d 1) (d 2) (N5 3) (d 3) (N5 5) (d 4) (d 5) (d 6) (N5 9) (d 7) (N5 11) (N5 12) (N5 13) (N5 14) (N5 15) (N5 16) (N5 17) (N5 18) (N5 19) (N5 20) (N5 21) (N5 22) (N5 23) (N5 24) (N5 25) (N5 26) (N5 27) (N5 28), arI X (d 1) 122 u5, arI X (d 6) 500 T]) A9 s9.heap H locs := hw
                      refine W.eq (g2 := F0 m9 96 ls []) rfl ?_
                      refine lv_aload_n Ex Eb dX8_repeatCommand_96 rfl (lv_at hl 0 rfl) ?_
                      refine lo_callV (q0 := 0) (rest := []) E hK hw (kX8_advance l X d N5 T (by omega) (by omega) (by omega) (by omega) (by omega)) (cwV 0 E.2.2.2.2 gX8_repeatCommand_X8_advance rfl rfl rfl (by decide +kernel) ⟨Nat.le_of_ble_eq_true rfl, Nat.le_of_ble_eq_true rfl⟩) rfl rfl [0, 2] rfl (by decide) hl.1 rfl rfl (Nat.le_of_ble_eq_true rfl) dX8_repeatCommand_97 ⟨Nat.le_of_ble_eq_true rfl, Nat.le_of_ble_eq_true rfl⟩ (fun v w1 H locs hq hw => ?_)
                      obtain ⟨b5, a5, k5, g5, q97_0, q97_1, rfl, rfl⟩ := hq
                      have ak5 := ADV_k q97_0 (by omega) (by omega)
                      have hw : lo_Wd X ([oX8 (d 0) (N5 0) (d 1) (d 2) (N5 3) (d 3) (N5 5) (d 4) (d 5) (d 6) (N5 9) (d 7) (N5 11) (N5 12) (N5 13) (N5 14) (N5 15) (N5 16) (N5 17) (N5 18) (N5 19) a5 b5 k5 g5 (N5 24) (N5 25) (N5 26) (N5 27) (N5 28), arI X (d 1) 122 u5, arI X (d 6) 500 T]) A9 s9.heap H locs := hw
                      refine W.eq (g2 := F0 m9 100 ls []) rfl ?_
                      refine lv_goto (tgt := 76) Ex Eb dX8_repeatCommand_100 (by decide) ?_
                      exact ih76 (uI (uI (uI (uI N5 20 a5) 21 b5) 22 k5) 23 g5) u5 (N5 20) (MS_lt (by omega) (show N5 24 ≠ 0 ∨ (q < N5 20 ∧ N5 20 ≤ M 9) by omega) hn76) (fun h => by have h9 := ADV_f h q97_0; rw [hN9] at h9; exact h9) (BDY.tr iv76_1 (by omega) (by rw [← hJ18, ← hJ9]; exact q93_0)) (by repeat (first | refine KPC_u (by omega) ?_ | exact iv76_2.tr q93_1)) (q93_2) (by show N5 24 ≠ 0 ∨ (a2 ≤ N5 20 ∧ N5 20 ≤ M 9); omega) (by show (0 ≤ a5 ∧ a5 ≤ M 9) ∧ (0 ≤ g5 ∧ g5 ≤ 9999999) ∧ (0 ≤ N5 24 ∧ N5 24 ≤ 9) ∧ (0 ≤ k5 ∧ k5 ≤ 6) ∧ 0 ≤ N5 19 ∧ N5 19 ≤ 301; omega) (by have h9 := BDY_x q93_0; show N5 24 ≠ 0 ∨ N5 19 ≤ 300; exact h9) (fun h9 => (q93_5 h9).trans (iv76_7 (by omega))) _ _ _ hw (lv_sub hl [0, 1, 2, 3] rfl)
              exact lp76 _ (uI (uI (uI (uI K 20 a4) 21 (spE pSp T (K 9) a2)) 22 k4) 23 g4) u a2 (Nat.lt_succ_self _) (fun _ => by rw [← hK9]; exact TR_sc rfl q73_0) (BDY_eq (BDY.rf hx9 (eo := K 25) T (M 9) (M 18 + 1) a2 u) rfl (by show K 24 = 0; omega) rfl) (by repeat (first | refine KPC_u (by omega) ?_ | exact iv55_1)) (iv55_2) (Or.inr (by omega)) (by show (0 ≤ a4 ∧ a4 ≤ M 9) ∧ (0 ≤ g4 ∧ g4 ≤ 9999999) ∧ (0 ≤ K 24 ∧ K 24 ≤ 9) ∧ (0 ≤ k4 ∧ k4 ≤ 6) ∧ 0 ≤ K 19 ∧ K 19 ≤ 301; omega) (Or.inr (by show K 19 ≤ 300; omega)) (iv55_6) _ _ _ hw (lv_sub hl [0, 1, 2, 3] rfl)
      exact lp55 _ (uI (uI (uI (uI (uI (uI (uI M 18 (M 18 + 1)) 20 a2) 21 b2) 22 k2) 23 g2) 24 e3) 25 o3) w 0 (Nat.lt_succ_self _) (OI_i (by omega) hx hc (by omega) hTR.1 hxr) (by repeat (first | exact KPC.rf _ | refine KPC_u (by omega) ?_)) (hWI) (by show (0 ≤ a2 ∧ a2 ≤ M 9) ∧ (0 ≤ g2 ∧ g2 ≤ 9999999) ∧ (0 ≤ e3 ∧ e3 ≤ 9) ∧ (0 ≤ k2 ∧ k2 ≤ 6) ∧ 0 ≤ M 19 ∧ M 19 ≤ 301; omega) (by omega) (Or.inr (by show p ≤ a2; omega)) (ho3) _ _ _ hw (lv_sub hl [2, 3, 1, 0] rfl)
    refine lv_aload_n Ex Eb dX8_repeatCommand_25 rfl (lv_at hl 1 rfl) ?_
    refine lo_get E hK hw huRX8 22 hf205 rfl 0 rfl rfl (by decide) (v := .int (iI k2)) rfl dX8_repeatCommand_26 ?_
    refine lv_iconst (v := iI 5) Ex Eb dX8_repeatCommand_29 rfl ?_
    refine lo_icmp_eq (tgt := 38) E dX8_repeatCommand_30 (by decide) (by omega) (by omega) (fun c8 => ?_) (fun c8 => ?_)
    · skip
      exact jn38 e2 o2 (by omega) _ _ _ hw (lv_sub hl [1, 0] rfl)
    · skip
      refine lv_aload_n Ex Eb dX8_repeatCommand_33 rfl (lv_at hl 1 rfl) ?_
      refine lv_iconst (v := iI 1) Ex Eb dX8_repeatCommand_34 rfl ?_
      refine lo_callV (q0 := 0) (rest := []) E hK hw (kX8_fail l X d (uI (uI (uI (uI (uI (uI M 20 a2) 21 b2) 22 k2) 23 g2) 24 e2) 25 o2) 1 (show i32 (e2) by omega)) (cwV 1 E.2.2.2.2 gX8_repeatCommand_X8_fail rfl rfl rfl (by decide +kernel) ⟨Nat.le_of_ble_eq_true rfl, Nat.le_of_ble_eq_true rfl⟩) rfl rfl [0] rfl (by decide) hl.1 rfl rfl (Nat.le_of_ble_eq_true rfl) dX8_repeatCommand_35 ⟨Nat.le_of_ble_eq_true rfl, Nat.le_of_ble_eq_true rfl⟩ (fun v w1 H locs hq hw => ?_)
      obtain ⟨e3, o3, q35_0, rfl, rfl⟩ := hq
      change (e2 = 0 ∧ e3 = 1 ∧ o3 = b2) ∨ (e2 ≠ 0 ∧ e3 = e2 ∧ o3 = o2) at q35_0
      have hw : lo_Wd X ([oX8 (d 0) (M 0) (d 1) (d 2) (M 3) (d 3) (M 5) (d 4) (d 5) (d 6) (M 9) (d 7) (M 11) (M 12) (M 13) (M 14) (M 15) (M 16) (M 17) (M 18) (M 19) a2 b2 k2 g2 e3 o3 (M 26) (M 27) (M 28), arI X (d 1) 122 w, arI X (d 6) 500 T]) A9 s9.heap H locs := hw
      refine W.eq (g2 := F0 m9 38 ls []) rfl ?_
      exact jn38 e3 o3 (by omega) _ _ _ hw (lv_sub hl [1, 0] rfl)
  · exact absurd c1 (by omega)
