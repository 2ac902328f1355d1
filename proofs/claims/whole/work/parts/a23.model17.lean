set_option maxHeartbeats 2000000 in
set_option maxRecDepth 100000 in
theorem kX8_runScript (l : Launch) (X : KX) (kS : Nat → Nat) (d r q : Nat → Nat) (M : Nat → Int) (C : Nat → Nat → Int) (w g T : Nat → Int) (ht : 0 ≤ M 9 ∧ M 9 ≤ 500) (hT : ∀ k : Nat, 0 ≤ T k ∧ T k ≤ 255) (hpc : 0 ≤ M 3 ∧ M 3 ≤ 8) (hq : ∀ j, j < 8 → q j < 8) (hWI : WI w) (hg : 0 ≤ M 23 ∧ M 23 ≤ 9999999) : CE l X kS yX8_runScript wsX8_runScript ({ frames := 21, cells := 0, slots := 0, locals := 425 }) [.ref (d 0)] ([oX8 (d 0) (M 0) (d 1) (d 2) (M 3) (d 3) (M 5) (d 4) (d 5) (d 6) (M 9) (d 7) (M 11) (M 12) (M 13) (M 14) (M 15) (M 16) (M 17) (M 18) (M 19) (M 20) (M 21) (M 22) (M 23) (M 24) (M 25) (M 26) (M 27) (M 28), arI X (d 1) 122 w, arI X (d 4) 122 g, arI X (d 6) 500 T, arA X (d 2) 8 (rq r q)] ++ ((rwW X r C))) (fun v9 w9 => ∃ N : Nat → Int, ∃ u : Nat → Int, ∃ y : Nat → Int, ∃ p : Nat → Nat, ∃ K : Nat → Nat → Int, ∃ z : Int, (∃ u9, SRO T (M 9) (N 26) (N 27) u9 ∧ (N 26 = 0 → u9 = u)) ∧ ((N 26 = 0 ∧ z = u 0 ∧ p = rmQ q (M 3) ∧ K = rmC C q (M 3) w ∧ N 3 = min (M 3 + 1) 8) ∨ (N 26 ≠ 0 ∧ u = w ∧ z = -1 ∧ p = q ∧ K = C ∧ N 3 = M 3)) ∧ (N 0 = 0 ∧ N 9 = 0 ∧ N 5 = M 5 ∧ N 11 = M 11) ∧ ((0 ≤ N 23 ∧ N 23 ≤ 9999999) ∧ 0 ≤ N 26 ∧ N 26 ≤ 9) ∧ (WI u) ∧ (EN (N 26) (N 27)) ∧ v9 = some (.int (iI z)) ∧ w9 = [oX8 (d 0) (N 0) (d 1) (d 2) (N 3) (d 3) (N 5) (d 4) (d 5) (d 6) (N 9) (d 7) (N 11) (N 12) (N 13) (N 14) (N 15) (N 16) (N 17) (N 18) (N 19) (N 20) (N 21) (N 22) (N 23) (N 24) (N 25) (N 26) (N 27) (N 28), arI X (d 1) 122 u, arI X (d 4) 122 y, arI X (d 6) 500 T, arA X (d 2) 8 (rq r p)] ++ ((rwW X r K))) 0 0 := by
  refine lo_enterE (cc := cX8_runScript) (maxL := 1) (ret := (some .int)) (lv := [(0, .ref (d 0))]) (by decide) rfl rfl (Nat.le_of_ble_eq_true rfl) ?_
  intro p9 e9 s9 m9 bl9 me9 c9 A9 ls hAe E hRt hLk hK hl hw hV
  have Ex := E.1
  have Eb := E.2.1
  have huRX8 : ∀ w ∈ u_ws RX8 TX8 29, w ∈ wsX8_runScript := by decide +kernel
  have hf56 : (Cond.fieldLink RX8 56 "LoanScheduleModel" "thrown" "I").before _ s9 = true := E.2.2.2.2 _ (List.mem_of_getElem? (i := 1) rfl)
  have hf9 : (Cond.fieldLink RX8 9 "LoanScheduleModel" "w" "[I").before _ s9 = true := E.2.2.2.2 _ (List.mem_of_getElem? (i := 2) rfl)
  have hf21 : (Cond.fieldLink RX8 21 "LoanScheduleModel" "before" "[I").before _ s9 = true := E.2.2.2.2 _ (List.mem_of_getElem? (i := 3) rfl)
  have hf199 : (Cond.fieldLink RX8 199 "LoanScheduleModel" "at" "I").before _ s9 = true := E.2.2.2.2 _ (List.mem_of_getElem? (i := 4) rfl)
  have hf217 : (Cond.fieldLink RX8 217 "LoanScheduleModel" "errorKind" "I").before _ s9 = true := E.2.2.2.2 _ (List.mem_of_getElem? (i := 5) rfl)
  have hf229 : (Cond.fieldLink RX8 229 "LoanScheduleModel" "errorOffset" "I").before _ s9 = true := E.2.2.2.2 _ (List.mem_of_getElem? (i := 6) rfl)
  have hf248 : (Cond.fieldLink RX8 248 "LoanScheduleModel" "depth" "I").before _ s9 = true := E.2.2.2.2 _ (List.mem_of_getElem? (i := 7) rfl)
  have hf251 : (Cond.fieldLink RX8 251 "LoanScheduleModel" "executed" "I").before _ s9 = true := E.2.2.2.2 _ (List.mem_of_getElem? (i := 8) rfl)
  have hf196 : (Cond.fieldLink RX8 196 "LoanScheduleModel" "typed" "I").before _ s9 = true := E.2.2.2.2 _ (List.mem_of_getElem? (i := 10) rfl)
  have hf270 : (Cond.fieldLink RX8 270 "LoanScheduleModel" "scriptKind" "I").before _ s9 = true := E.2.2.2.2 _ (List.mem_of_getElem? (i := 11) rfl)
  have hf34 : (Cond.fieldLink RX8 34 "LoanScheduleModel" "scriptOffset" "I").before _ s9 = true := E.2.2.2.2 _ (List.mem_of_getElem? (i := 12) rfl)
  have hf205 : (Cond.fieldLink RX8 205 "LoanScheduleModel" "kind" "I").before _ s9 = true := E.2.2.2.2 _ (List.mem_of_getElem? (i := 9) rfl)
  refine lv_aload_n Ex Eb dX8_runScript_0 rfl (lv_at hl 0 rfl) ?_
  refine lv_iconst (v := iI 0) Ex Eb dX8_runScript_1 rfl ?_
  refine lo_put E hK hw huRX8 tyX8 tyX8_ok nmX8 0 hf56 rfl 0 rfl rfl (by decide) rfl rfl rfl rfl (Nat.le_of_ble_eq_true rfl) (ws' := [oX8 (d 0) 0 (d 1) (d 2) (M 3) (d 3) (M 5) (d 4) (d 5) (d 6) (M 9) (d 7) (M 11) (M 12) (M 13) (M 14) (M 15) (M 16) (M 17) (M 18) (M 19) (M 20) (M 21) (M 22) (M 23) (M 24) (M 25) (M 26) (M 27) (M 28), arI X (d 1) 122 w, arI X (d 4) 122 g, arI X (d 6) 500 T, arA X (d 2) 8 (rq r q)] ++ ((rwW X r C))) rfl dX8_runScript_2 (fun H locs hw => ?_)
  refine lv_aload_n Ex Eb dX8_runScript_5 rfl (lv_at hl 0 rfl) ?_
  refine lo_get E hK hw huRX8 1 hf9 rfl 0 rfl rfl (by decide) (v := .ref (d 1)) rfl dX8_runScript_6 ?_
  refine lv_aload_n Ex Eb dX8_runScript_9 rfl (lv_at hl 0 rfl) ?_
  refine lo_get E hK hw huRX8 6 hf21 rfl 0 rfl rfl (by decide) (v := .ref (d 4)) rfl dX8_runScript_10 ?_
  refine lo_callS (rest := []) E hK hw (kX8_copy l X (d 1) (d 4) w g ) (cwS 2 E.2.2.2.2 gX8_runScript_X8_copy rfl rfl rfl (by decide +kernel) ⟨Nat.le_of_ble_eq_true rfl, Nat.le_of_ble_eq_true rfl⟩) [1, 2] rfl (by decide) hl.1 rfl rfl (Nat.le_of_ble_eq_true rfl) dX8_runScript_13 ⟨Nat.le_of_ble_eq_true rfl, Nat.le_of_ble_eq_true rfl⟩ (fun v w1 H locs hq hw => ?_)
  obtain ⟨rfl, rfl⟩ := hq
  have hw : lo_Wd X ([oX8 (d 0) 0 (d 1) (d 2) (M 3) (d 3) (M 5) (d 4) (d 5) (d 6) (M 9) (d 7) (M 11) (M 12) (M 13) (M 14) (M 15) (M 16) (M 17) (M 18) (M 19) (M 20) (M 21) (M 22) (M 23) (M 24) (M 25) (M 26) (M 27) (M 28), arI X (d 1) 122 w, arI X (d 4) 122 w, arI X (d 6) 500 T, arA X (d 2) 8 (rq r q)] ++ ((rwW X r C))) A9 s9.heap H locs := hw
  refine W.eq (g2 := F0 m9 16 ls []) rfl ?_
  refine lv_aload_n Ex Eb dX8_runScript_16 rfl (lv_at hl 0 rfl) ?_
  refine lv_iconst (v := iI 0) Ex Eb dX8_runScript_17 rfl ?_
  refine lo_put E hK hw huRX8 tyX8 tyX8_ok nmX8 20 hf199 rfl 0 rfl rfl (by decide) rfl rfl rfl rfl (Nat.le_of_ble_eq_true rfl) (ws' := [oX8 (d 0) 0 (d 1) (d 2) (M 3) (d 3) (M 5) (d 4) (d 5) (d 6) (M 9) (d 7) (M 11) (M 12) (M 13) (M 14) (M 15) (M 16) (M 17) (M 18) (M 19) 0 (M 21) (M 22) (M 23) (M 24) (M 25) (M 26) (M 27) (M 28), arI X (d 1) 122 w, arI X (d 4) 122 w, arI X (d 6) 500 T, arA X (d 2) 8 (rq r q)] ++ ((rwW X r C))) rfl dX8_runScript_18 (fun H locs hw => ?_)
  refine lv_aload_n Ex Eb dX8_runScript_21 rfl (lv_at hl 0 rfl) ?_
  refine lv_iconst (v := iI 0) Ex Eb dX8_runScript_22 rfl ?_
  refine lo_put E hK hw huRX8 tyX8 tyX8_ok nmX8 24 hf217 rfl 0 rfl rfl (by decide) rfl rfl rfl rfl (Nat.le_of_ble_eq_true rfl) (ws' := [oX8 (d 0) 0 (d 1) (d 2) (M 3) (d 3) (M 5) (d 4) (d 5) (d 6) (M 9) (d 7) (M 11) (M 12) (M 13) (M 14) (M 15) (M 16) (M 17) (M 18) (M 19) 0 (M 21) (M 22) (M 23) 0 (M 25) (M 26) (M 27) (M 28), arI X (d 1) 122 w, arI X (d 4) 122 w, arI X (d 6) 500 T, arA X (d 2) 8 (rq r q)] ++ ((rwW X r C))) rfl dX8_runScript_23 (fun H locs hw => ?_)
  refine lv_aload_n Ex Eb dX8_runScript_26 rfl (lv_at hl 0 rfl) ?_
  refine lv_iconst (v := iI (-1)) Ex Eb dX8_runScript_27 rfl ?_
  refine lo_put E hK hw huRX8 tyX8 tyX8_ok nmX8 25 hf229 rfl 0 rfl rfl (by decide) rfl rfl rfl rfl (Nat.le_of_ble_eq_true rfl) (ws' := [oX8 (d 0) 0 (d 1) (d 2) (M 3) (d 3) (M 5) (d 4) (d 5) (d 6) (M 9) (d 7) (M 11) (M 12) (M 13) (M 14) (M 15) (M 16) (M 17) (M 18) (M 19) 0 (M 21) (M 22) (M 23) 0 (-1) (M 26) (M 27) (M 28), arI X (d 1) 122 w, arI X (d 4) 122 w, arI X (d 6) 500 T, arA X (d 2) 8 (rq r q)] ++ ((rwW X r C))) rfl dX8_runScript_28 (fun H locs hw => ?_)
  refine lv_aload_n Ex Eb dX8_runScript_31 rfl (lv_at hl 0 rfl) ?_
  refine lv_iconst (v := iI 0) Ex Eb dX8_runScript_32 rfl ?_
  refine lo_put E hK hw huRX8 tyX8 tyX8_ok nmX8 18 hf248 rfl 0 rfl rfl (by decide) rfl rfl rfl rfl (Nat.le_of_ble_eq_true rfl) (ws' := [oX8 (d 0) 0 (d 1) (d 2) (M 3) (d 3) (M 5) (d 4) (d 5) (d 6) (M 9) (d 7) (M 11) (M 12) (M 13) (M 14) (M 15) (M 16) (M 17) 0 (M 19) 0 (M 21) (M 22) (M 23) 0 (-1) (M 26) (M 27) (M 28), arI X (d 1) 122 w, arI X (d 4) 122 w, arI X (d 6) 500 T, arA X (d 2) 8 (rq r q)] ++ ((rwW X r C))) rfl dX8_runScript_33 (fun H locs hw => ?_)
  refine lv_aload_n Ex Eb dX8_runScript_36 rfl (lv_at hl 0 rfl) ?_
  refine lv_iconst (v := iI 0) Ex Eb dX8_runScript_37 rfl ?_
  refine lo_put E hK hw huRX8 tyX8 tyX8_ok nmX8 19 hf251 rfl 0 rfl rfl (by decide) rfl rfl rfl rfl (Nat.le_of_ble_eq_true rfl) (ws' := [oX8 (d 0) 0 (d 1) (d 2) (M 3) (d 3) (M 5) (d 4) (d 5) (d 6) (M 9) (d 7) (M 11) (M 12) (M 13) (M 14) (M 15) (M 16) (M 17) 0 0 0 (M 21) (M 22) (M 23) 0 (-1) (M 26) (M 27) (M 28), arI X (d 1) 122 w, arI X (d 4) 122 w, arI X (d 6) 500 T, arA X (d 2) 8 (rq r q)] ++ ((rwW X r C))) rfl dX8_runScript_38 (fun H locs hw => ?_)
  refine lv_aload_n Ex Eb dX8_runScript_41 rfl (lv_at hl 0 rfl) ?_
  refine lo_callV (q0 := 0) (rest := []) E hK hw (kX8_scan l X d (uI (uI (uI (uI (uI (uI M 0 0) 18 0) 19 0) 20 0) 24 0) 25 (-1)) T (show 0 ≤ (M 9) ∧ (M 9) ≤ 500 by omega) (by omega) (show 0 ≤ 0 ∧ 0 ≤ (M 9) by omega) (show 0 ≤ (M 23) ∧ (M 23) ≤ 9999999 by omega)) (cwV 0 E.2.2.2.2 gX8_runScript_X8_scan rfl rfl rfl (by decide +kernel) ⟨Nat.le_of_ble_eq_true rfl, Nat.le_of_ble_eq_true rfl⟩) rfl rfl [0, 3] rfl (by decide) hl.1 rfl rfl (Nat.le_of_ble_eq_true rfl) dX8_runScript_42 ⟨Nat.le_of_ble_eq_true rfl, Nat.le_of_ble_eq_true rfl⟩ (fun v w1 H locs hq hw => ?_)
  obtain ⟨a0, k0, g0, q42_0, q42_1, rfl, rfl⟩ := hq
  change SCN T ((M 9)) (spE pSp T ((M 9)) (0)) ((M 23)) a0 k0 g0 at q42_0
  change (0 ≤ spE pSp T ((M 9)) (0) ∧ spE pSp T ((M 9)) (0) ≤ a0 ∧ a0 ≤ (M 9)) ∧ 0 ≤ g0 ∧ g0 ≤ 9999999 at q42_1
  have hw : lo_Wd X ([oX8 (d 0) 0 (d 1) (d 2) (M 3) (d 3) (M 5) (d 4) (d 5) (d 6) (M 9) (d 7) (M 11) (M 12) (M 13) (M 14) (M 15) (M 16) (M 17) 0 0 a0 (spE pSp T (M 9) 0) k0 g0 0 (-1) (M 26) (M 27) (M 28), arI X (d 1) 122 w, arI X (d 4) 122 w, arI X (d 6) 500 T, arA X (d 2) 8 (rq r q)] ++ ((rwW X r C))) A9 s9.heap H locs := hw
  refine W.eq (g2 := F0 m9 45 ls []) rfl ?_
  have tr0 := TR_sc (p := 0) rfl q42_0
  have rr0 := TR_r (by omega) tr0
  refine lv_aload_n Ex Eb dX8_runScript_45 rfl (lv_at hl 0 rfl) ?_
  refine lo_ldcS E hV 10 (by decide) rfl dX8_runScript_46 ?_
  refine lo_callVE (q0 := 0) (rest := []) E hK hw hV (kX8_isWord l X kS d (uI (uI (uI (uI (uI (uI (uI (uI (uI M 0 0) 18 0) 19 0) 20 a0) 21 (spE pSp T (M 9) 0)) 22 k0) 23 g0) 24 0) 25 (-1)) T 10 (show 0 ≤ (M 9) ∧ (M 9) ≤ 500 by omega) (by omega) (show 0 ≤ (spE pSp T (M 9) 0) ∧ (spE pSp T (M 9) 0) ≤ a0 ∧ a0 ≤ (M 9) by omega) (show i32 (0) by omega) (show 0 ≤ k0 ∧ k0 ≤ 6 by omega) (by omega)) (cwV 1 E.2.2.2.2 gX8_runScript_X8_isWord rfl rfl rfl (by decide +kernel) ⟨Nat.le_of_ble_eq_true rfl, Nat.le_of_ble_eq_true rfl⟩) rfl rfl [0, 3] rfl (by decide) hl.1 rfl rfl (Nat.le_of_ble_eq_true rfl) dX8_runScript_48 ⟨Nat.le_of_ble_eq_true rfl, Nat.le_of_ble_eq_true rfl⟩ (fun v w1 H locs hq hw => ?_)
  obtain ⟨z1, q48_0, rfl, rfl⟩ := hq
  change (z1 = 1 ∧ 0 = 0 ∧ k0 = 3 ∧ isW T ((spE pSp T (M 9) 0)) (a0) (lo_tx 10)) ∨ (z1 = 0 ∧ ¬ (0 = 0 ∧ k0 = 3 ∧ isW T ((spE pSp T (M 9) 0)) (a0) (lo_tx 10))) at q48_0
  have hw : lo_Wd X ([oX8 (d 0) 0 (d 1) (d 2) (M 3) (d 3) (M 5) (d 4) (d 5) (d 6) (M 9) (d 7) (M 11) (M 12) (M 13) (M 14) (M 15) (M 16) (M 17) 0 0 a0 (spE pSp T (M 9) 0) k0 g0 0 (-1) (M 26) (M 27) (M 28), arI X (d 1) 122 w, arI X (d 4) 122 w, arI X (d 6) 500 T, arA X (d 2) 8 (rq r q)] ++ ((rwW X r C))) A9 s9.heap H locs := hw
  refine W.eq (g2 := F0 m9 51 ls [.int (iI z1)]) rfl ?_
  have jn59 : ∀ (e1 o1 : Int), ((e1 = 0 ∧ (k0 = 3 ∧ isW T (spE pSp T (M 9) 0) a0 (lo_tx 10))) ∨ (e1 = 1 ∧ o1 = spE pSp T (M 9) 0 ∧ ¬ (k0 = 3 ∧ isW T (spE pSp T (M 9) 0) a0 (lo_tx 10)))) → (e1 = 0 ∨ e1 = 1) → (EN e1 o1) → ∀ (H : Heap) (locs : List Loc) (ls : Array Slot), lo_Wd X ([oX8 (d 0) 0 (d 1) (d 2) (M 3) (d 3) (M 5) (d 4) (d 5) (d 6) (M 9) (d 7) (M 11) (M 12) (M 13) (M 14) (M 15) (M 16) (M 17) 0 0 a0 (spE pSp T (M 9) 0) k0 g0 e1 o1 (M 26) (M 27) (M 28), arI X (d 1) 122 w, arI X (d 4) 122 w, arI X (d 6) 500 T, arA X (d 2) 8 (rq r q)] ++ ((rwW X r C))) A9 s9.heap H locs → lv_has ls 1 [(0, .ref (d 0))] → W p9 l e9 ({ frames := 21, cells := 0, slots := 0, locals := 425 } : Room) s9 m9 ([.ref (d 0)] : List Value).toArray bl9 me9 c9 H locs 0 0 (MQ bl9 (lo_Qc X ([oX8 (d 0) (M 0) (d 1) (d 2) (M 3) (d 3) (M 5) (d 4) (d 5) (d 6) (M 9) (d 7) (M 11) (M 12) (M 13) (M 14) (M 15) (M 16) (M 17) (M 18) (M 19) (M 20) (M 21) (M 22) (M 23) (M 24) (M 25) (M 26) (M 27) (M 28), arI X (d 1) 122 w, arI X (d 4) 122 g, arI X (d 6) 500 T, arA X (d 2) 8 (rq r q)] ++ ((rwW X r C))) s9.heap.size (fun v9 w9 => ∃ N : Nat → Int, ∃ u : Nat → Int, ∃ y : Nat → Int, ∃ p : Nat → Nat, ∃ K : Nat → Nat → Int, ∃ z : Int, (∃ u9, SRO T (M 9) (N 26) (N 27) u9 ∧ (N 26 = 0 → u9 = u)) ∧ ((N 26 = 0 ∧ z = u 0 ∧ p = rmQ q (M 3) ∧ K = rmC C q (M 3) w ∧ N 3 = min (M 3 + 1) 8) ∨ (N 26 ≠ 0 ∧ u = w ∧ z = -1 ∧ p = q ∧ K = C ∧ N 3 = M 3)) ∧ (N 0 = 0 ∧ N 9 = 0 ∧ N 5 = M 5 ∧ N 11 = M 11) ∧ ((0 ≤ N 23 ∧ N 23 ≤ 9999999) ∧ 0 ≤ N 26 ∧ N 26 ≤ 9) ∧ (WI u) ∧ (EN (N 26) (N 27)) ∧ v9 = some (.int (iI z)) ∧ w9 = [oX8 (d 0) (N 0) (d 1) (d 2) (N 3) (d 3) (N 5) (d 4) (d 5) (d 6) (N 9) (d 7) (N 11) (N 12) (N 13) (N 14) (N 15) (N 16) (N 17) (N 18) (N 19) (N 20) (N 21) (N 22) (N 23) (N 24) (N 25) (N 26) (N 27) (N 28), arI X (d 1) 122 u, arI X (d 4) 122 y, arI X (d 6) 500 T, arA X (d 2) 8 (rq r p)] ++ ((rwW X r K)))) ([.ref (d 0)] : List Value).toArray s9 0 0 A9) (F0 m9 59 ls []) := by
    intro e1 o1 jn59_0 jn59_1 jn59_2 H locs ls hw hl
    refine lv_aload_n Ex Eb dX8_runScript_59 rfl (lv_at hl 0 rfl) ?_
    refine lo_callV (q0 := 0) (rest := []) E hK hw (kX8_advance l X d (uI (uI (uI (uI (uI (uI (uI (uI (uI M 0 0) 18 0) 19 0) 20 a0) 21 (spE pSp T (M 9) 0)) 22 k0) 23 g0) 24 e1) 25 o1) T (show 0 ≤ (M 9) ∧ (M 9) ≤ 500 by omega) (by omega) (show 0 ≤ a0 ∧ a0 ≤ (M 9) by omega) (show 0 ≤ g0 ∧ g0 ≤ 9999999 by omega) (show i32 (e1) by omega)) (cwV 0 E.2.2.2.2 gX8_runScript_X8_advance rfl rfl rfl (by decide +kernel) ⟨Nat.le_of_ble_eq_true rfl, Nat.le_of_ble_eq_true rfl⟩) rfl rfl [0, 3] rfl (by decide) hl.1 rfl rfl (Nat.le_of_ble_eq_true rfl) dX8_runScript_60 ⟨Nat.le_of_ble_eq_true rfl, Nat.le_of_ble_eq_true rfl⟩ (fun v w1 H locs hq hw => ?_)
    obtain ⟨b1, a1, k1, g1, q60_0, q60_1, rfl, rfl⟩ := hq
    change (e1 = 0 ∧ b1 = spE pSp T ((M 9)) (a0) ∧ SCN T ((M 9)) b1 (g0) a1 k1 g1) ∨ (e1 ≠ 0 ∧ a1 = a0 ∧ b1 = (spE pSp T (M 9) 0) ∧ k1 = k0 ∧ g1 = g0) at q60_0
    change 0 ≤ a1 ∧ a1 ≤ (M 9) ∧ 0 ≤ g1 ∧ g1 ≤ 9999999 at q60_1
    have rk1 := (ADV_k q60_0 (by omega) (by omega)).1
    have hw : lo_Wd X ([oX8 (d 0) 0 (d 1) (d 2) (M 3) (d 3) (M 5) (d 4) (d 5) (d 6) (M 9) (d 7) (M 11) (M 12) (M 13) (M 14) (M 15) (M 16) (M 17) 0 0 a1 b1 k1 g1 e1 o1 (M 26) (M 27) (M 28), arI X (d 1) 122 w, arI X (d 4) 122 w, arI X (d 6) 500 T, arA X (d 2) 8 (rq r q)] ++ ((rwW X r C))) A9 s9.heap H locs := hw
    refine W.eq (g2 := F0 m9 63 ls []) rfl ?_
    refine lv_aload_n Ex Eb dX8_runScript_63 rfl (lv_at hl 0 rfl) ?_
    refine lv_iconst (v := iI 1) Ex Eb dX8_runScript_64 rfl ?_
    refine lo_callV (q0 := 0) (rest := []) E hK hw (kX8_ends l X d (uI (uI (uI (uI (uI (uI (uI (uI (uI M 0 0) 18 0) 19 0) 20 a1) 21 b1) 22 k1) 23 g1) 24 e1) 25 o1) 1 (show i32 (e1) by omega) (show i32 (k1) by omega) (by omega)) (cwV 1 E.2.2.2.2 gX8_runScript_X8_ends rfl rfl rfl (by decide +kernel) ⟨Nat.le_of_ble_eq_true rfl, Nat.le_of_ble_eq_true rfl⟩) rfl rfl [0] rfl (by decide) hl.1 rfl rfl (Nat.le_of_ble_eq_true rfl) dX8_runScript_65 ⟨Nat.le_of_ble_eq_true rfl, Nat.le_of_ble_eq_true rfl⟩ (fun v w1 H locs hq hw => ?_)
    obtain ⟨ek, eo, zz, q65_0, rfl, rfl⟩ := hq
    change (e1 ≠ 0 ∧ ek = e1 ∧ eo = o1 ∧ zz = 0) ∨ (e1 = 0 ∧ k1 ≠ 1 ∧ ek = 1 ∧ eo = b1 ∧ zz = 0) ∨ (e1 = 0 ∧ k1 = 1 ∧ 1 = 0 ∧ ek = 3 ∧ eo = b1 ∧ zz = 0) ∨ (e1 = 0 ∧ k1 = 1 ∧ 1 = 1 ∧ ek = 0 ∧ eo = o1 ∧ zz = 1) at q65_0
    have hw : lo_Wd X ([oX8 (d 0) 0 (d 1) (d 2) (M 3) (d 3) (M 5) (d 4) (d 5) (d 6) (M 9) (d 7) (M 11) (M 12) (M 13) (M 14) (M 15) (M 16) (M 17) 0 0 a1 b1 k1 g1 ek eo (M 26) (M 27) (M 28), arI X (d 1) 122 w, arI X (d 4) 122 w, arI X (d 6) 500 T, arA X (d 2) 8 (rq r q)] ++ ((rwW X r C))) A9 s9.heap H locs := hw
    refine W.eq (g2 := F0 m9 68 ls [.int (iI zz)]) rfl ?_
    have jn75 : ∀ (v : Nat → Int), ((zz = 1 ∧ v = fun _ => 0) ∨ (zz = 0 ∧ v = w)) → ∀ (H : Heap) (locs : List Loc) (ls : Array Slot), lo_Wd X ([oX8 (d 0) 0 (d 1) (d 2) (M 3) (d 3) (M 5) (d 4) (d 5) (d 6) (M 9) (d 7) (M 11) (M 12) (M 13) (M 14) (M 15) (M 16) (M 17) 0 0 a1 b1 k1 g1 ek eo (M 26) (M 27) (M 28), arI X (d 1) 122 v, arI X (d 4) 122 w, arI X (d 6) 500 T, arA X (d 2) 8 (rq r q)] ++ ((rwW X r C))) A9 s9.heap H locs → lv_has ls 1 [(0, .ref (d 0))] → W p9 l e9 ({ frames := 21, cells := 0, slots := 0, locals := 425 } : Room) s9 m9 ([.ref (d 0)] : List Value).toArray bl9 me9 c9 H locs 0 0 (MQ bl9 (lo_Qc X ([oX8 (d 0) (M 0) (d 1) (d 2) (M 3) (d 3) (M 5) (d 4) (d 5) (d 6) (M 9) (d 7) (M 11) (M 12) (M 13) (M 14) (M 15) (M 16) (M 17) (M 18) (M 19) (M 20) (M 21) (M 22) (M 23) (M 24) (M 25) (M 26) (M 27) (M 28), arI X (d 1) 122 w, arI X (d 4) 122 g, arI X (d 6) 500 T, arA X (d 2) 8 (rq r q)] ++ ((rwW X r C))) s9.heap.size (fun v9 w9 => ∃ N : Nat → Int, ∃ u : Nat → Int, ∃ y : Nat → Int, ∃ p : Nat → Nat, ∃ K : Nat → Nat → Int, ∃ z : Int, (∃ u9, SRO T (M 9) (N 26) (N 27) u9 ∧ (N 26 = 0 → u9 = u)) ∧ ((N 26 = 0 ∧ z = u 0 ∧ p = rmQ q (M 3) ∧ K = rmC C q (M 3) w ∧ N 3 = min (M 3 + 1) 8) ∨ (N 26 ≠ 0 ∧ u = w ∧ z = -1 ∧ p = q ∧ K = C ∧ N 3 = M 3)) ∧ (N 0 = 0 ∧ N 9 = 0 ∧ N 5 = M 5 ∧ N 11 = M 11) ∧ ((0 ≤ N 23 ∧ N 23 ≤ 9999999) ∧ 0 ≤ N 26 ∧ N 26 ≤ 9) ∧ (WI u) ∧ (EN (N 26) (N 27)) ∧ v9 = some (.int (iI z)) ∧ w9 = [oX8 (d 0) (N 0) (d 1) (d 2) (N 3) (d 3) (N 5) (d 4) (d 5) (d 6) (N 9) (d 7) (N 11) (N 12) (N 13) (N 14) (N 15) (N 16) (N 17) (N 18) (N 19) (N 20) (N 21) (N 22) (N 23) (N 24) (N 25) (N 26) (N 27) (N 28), arI X (d 1) 122 u, arI X (d 4) 122 y, arI X (d 6) 500 T, arA X (d 2) 8 (rq r p)] ++ ((rwW X r K)))) ([.ref (d 0)] : List Value).toArray s9 0 0 A9) (F0 m9 75 ls []) := by
      intro v jn75_0 H locs ls hw hl
      have hWv : WI v := by rcases jn75_0 with ⟨-, rfl⟩ | ⟨-, rfl⟩; exact WI_0; exact hWI
      have hsl := SRL tr0 jn59_0 q60_0 q65_0
      have hs0 := SRR_0 hsl jn75_0
      have hek : 0 ≤ ek ∧ ek ≤ 9 := by omega
      have ho5 : EN ek eo := fun h9 => (ENR_o q65_0 h9).2.trans (jn59_2 (ENR_o q65_0 h9).1)
      clear jn75_0 hsl q65_0 q60_0 jn59_0 jn59_1
      refine lv_aload_n Ex Eb dX8_runScript_75 rfl (lv_at hl 0 rfl) ?_
      refine lo_callV (q0 := 0) (rest := []) E hK hw (kX8_advance l X d (uI (uI (uI (uI (uI (uI (uI (uI (uI M 0 0) 18 0) 19 0) 20 a1) 21 b1) 22 k1) 23 g1) 24 ek) 25 eo) T (show 0 ≤ (M 9) ∧ (M 9) ≤ 500 by omega) (by omega) (show 0 ≤ a1 ∧ a1 ≤ (M 9) by omega) (show 0 ≤ g1 ∧ g1 ≤ 9999999 by omega) (show i32 (ek) by omega)) (cwV 0 E.2.2.2.2 gX8_runScript_X8_advance rfl rfl rfl (by decide +kernel) ⟨Nat.le_of_ble_eq_true rfl, Nat.le_of_ble_eq_true rfl⟩) rfl rfl [0, 3] rfl (by decide) hl.1 rfl rfl (Nat.le_of_ble_eq_true rfl) dX8_runScript_76 ⟨Nat.le_of_ble_eq_true rfl, Nat.le_of_ble_eq_true rfl⟩ (fun v w1 H locs hq hw => ?_)
      obtain ⟨b2, a2, k2, g2, q76_0, q76_1, rfl, rfl⟩ := hq
      change (ek = 0 ∧ b2 = spE pSp T ((M 9)) (a1) ∧ SCN T ((M 9)) b2 (g1) a2 k2 g2) ∨ (ek ≠ 0 ∧ a2 = a1 ∧ b2 = b1 ∧ k2 = k1 ∧ g2 = g1) at q76_0
      change 0 ≤ a2 ∧ a2 ≤ (M 9) ∧ 0 ≤ g2 ∧ g2 ≤ 9999999 at q76_1
      have rr2 := (ADV_k q76_0 (by omega) (by omega)).1
      have hw : lo_Wd X ([oX8 (d 0) 0 (d 1) (d 2) (M 3) (d 3) (M 5) (d 4) (d 5) (d 6) (M 9) (d 7) (M 11) (M 12) (M 13) (M 14) (M 15) (M 16) (M 17) 0 0 a2 b2 k2 g2 ek eo (M 26) (M 27) (M 28), arI X (d 1) 122 v, arI X (d 4) 122 w, arI X (d 6) 500 T, arA X (d 2) 8 (rq r q)] ++ ((rwW X r C))) A9 s9.heap H locs := hw
      refine W.eq (g2 := F0 m9 79 ls []) rfl ?_
      have lp79 : ∀ (n : Nat) (J v : Nat → Int) (qp : Int), MS (J 24) qp (M 9) < n → (J 24 = 0 → TR T (M 9) qp (J 20) (J 21) (J 22) (J 23)) → (SRR T (M 9) qp (J 19) v (J 24) (J 25)) → (KPC (uI (uI M 0 0) 18 0) J) → (WI v) → (J 24 ≠ 0 ∨ (0 ≤ qp ∧ qp ≤ M 9)) → ((0 ≤ J 20 ∧ J 20 ≤ M 9) ∧ (0 ≤ J 23 ∧ J 23 ≤ 9999999) ∧ (0 ≤ J 24 ∧ J 24 ≤ 9) ∧ (0 ≤ J 22 ∧ J 22 ≤ 6) ∧ 0 ≤ J 19 ∧ J 19 ≤ 301) → (J 24 ≠ 0 ∨ J 19 ≤ 300) → (EN (J 24) (J 25)) → ∀ (H : Heap) (locs : List Loc) (ls : Array Slot), lo_Wd X ([oX8 (d 0) (J 0) (d 1) (d 2) (J 3) (d 3) (J 5) (d 4) (d 5) (d 6) (J 9) (d 7) (J 11) (J 12) (J 13) (J 14) (J 15) (J 16) (J 17) (J 18) (J 19) (J 20) (J 21) (J 22) (J 23) (J 24) (J 25) (J 26) (J 27) (J 28), arI X (d 1) 122 v, arI X (d 4) 122 w, arI X (d 6) 500 T, arA X (d 2) 8 (rq r q)] ++ ((rwW X r C))) A9 s9.heap H locs → lv_has ls 1 [(0, .ref (d 0))] → W p9 l e9 ({ frames := 21, cells := 0, slots := 0, locals := 425 } : Room) s9 m9 ([.ref (d 0)] : List Value).toArray bl9 me9 c9 H locs 0 0 (MQ bl9 (lo_Qc X ([oX8 (d 0) (M 0) (d 1) (d 2) (M 3) (d 3) (M 5) (d 4) (d 5) (d 6) (M 9) (d 7) (M 11) (M 12) (M 13) (M 14) (M 15) (M 16) (M 17) (M 18) (M 19) (M 20) (M 21) (M 22) (M 23) (M 24) (M 25) (M 26) (M 27) (M 28), arI X (d 1) 122 w, arI X (d 4) 122 g, arI X (d 6) 500 T, arA X (d 2) 8 (rq r q)] ++ ((rwW X r C))) s9.heap.size (fun v9 w9 => ∃ N : Nat → Int, ∃ u : Nat → Int, ∃ y : Nat → Int, ∃ p : Nat → Nat, ∃ K : Nat → Nat → Int, ∃ z : Int, (∃ u9, SRO T (M 9) (N 26) (N 27) u9 ∧ (N 26 = 0 → u9 = u)) ∧ ((N 26 = 0 ∧ z = u 0 ∧ p = rmQ q (M 3) ∧ K = rmC C q (M 3) w ∧ N 3 = min (M 3 + 1) 8) ∨ (N 26 ≠ 0 ∧ u = w ∧ z = -1 ∧ p = q ∧ K = C ∧ N 3 = M 3)) ∧ (N 0 = 0 ∧ N 9 = 0 ∧ N 5 = M 5 ∧ N 11 = M 11) ∧ ((0 ≤ N 23 ∧ N 23 ≤ 9999999) ∧ 0 ≤ N 26 ∧ N 26 ≤ 9) ∧ (WI u) ∧ (EN (N 26) (N 27)) ∧ v9 = some (.int (iI z)) ∧ w9 = [oX8 (d 0) (N 0) (d 1) (d 2) (N 3) (d 3) (N 5) (d 4) (d 5) (d 6) (N 9) (d 7) (N 11) (N 12) (N 13) (N 14) (N 15) (N 16) (N 17) (N 18) (N 19) (N 20) (N 21) (N 22) (N 23) (N 24) (N 25) (N 26) (N 27) (N 28), arI X (d 1) 122 u, arI X (d 4) 122 y, arI X (d 6) 500 T, arA X (d 2) 8 (rq r p)] ++ ((rwW X r K)))) ([.ref (d 0)] : List Value).toArray s9 0 0 A9) (F0 m9 79 ls []) := by
        intro n
        induction n with
        | zero => intro J v qp hn; exact absurd hn (Nat.not_lt_zero _)
        | succ n ih79 =>
          intro J v qp hn79 iv79_0 iv79_1 iv79_2 iv79_3 iv79_4 iv79_5 iv79_6 iv79_7 H locs ls hw hl
          have hJ9 : J 9 = M 9 := iv79_2 9 (by omega)
          have hJ18 : J 18 = 0 := iv79_2 18 (by omega)
          have hJ3 : J 3 = M 3 := iv79_2 3 (by omega)
          have hJ0 : J 0 = 0 := iv79_2 0 (by omega)
          have hJ5 : J 5 = M 5 := iv79_2 5 (by omega)
          have hJ11 : J 11 = M 11 := iv79_2 11 (by omega)
          refine lv_aload_n Ex Eb dX8_runScript_79 rfl (lv_at hl 0 rfl) ?_
          refine lo_callV (q0 := 0) (rest := []) E hK hw (kX8_good l X d J (by omega)) (cwV 0 E.2.2.2.2 gX8_runScript_X8_good rfl rfl rfl (by decide +kernel) ⟨Nat.le_of_ble_eq_true rfl, Nat.le_of_ble_eq_true rfl⟩) rfl rfl [0] rfl (by decide) hl.1 rfl rfl (Nat.le_of_ble_eq_true rfl) dX8_runScript_80 ⟨Nat.le_of_ble_eq_true rfl, Nat.le_of_ble_eq_true rfl⟩ (fun v w1 H locs hq hw => ?_)
          obtain ⟨z2, q80_0, rfl, rfl⟩ := hq
          have hw : lo_Wd X ([oX8 (d 0) (J 0) (d 1) (d 2) (J 3) (d 3) (J 5) (d 4) (d 5) (d 6) (J 9) (d 7) (J 11) (J 12) (J 13) (J 14) (J 15) (J 16) (J 17) (J 18) (J 19) (J 20) (J 21) (J 22) (J 23) (J 24) (J 25) (J 26) (J 27) (J 28), arI X (d 1) 122 v, arI X (d 4) 122 w, arI X (d 6) 500 T, arA X (d 2) 8 (rq r q)] ++ ((rwW X r C))) A9 s9.heap H locs := hw
          refine W.eq (g2 := F0 m9 83 ls [.int (iI z2)]) rfl ?_
          refine lo_if_eq (tgt := 104) E dX8_runScript_83 (by decide) (by omega) (fun c3 => ?_) (fun c3 => ?_)
          · skip
            refine lv_aload_n Ex Eb dX8_runScript_104 rfl (lv_at hl 0 rfl) ?_
            refine lv_iconst (v := iI 0) Ex Eb dX8_runScript_105 rfl ?_
            refine lo_put E hK hw huRX8 tyX8 tyX8_ok nmX8 9 hf196 rfl 0 rfl rfl (by decide) rfl rfl rfl rfl (Nat.le_of_ble_eq_true rfl) (ws' := [oX8 (d 0) (J 0) (d 1) (d 2) (J 3) (d 3) (J 5) (d 4) (d 5) (d 6) 0 (d 7) (J 11) (J 12) (J 13) (J 14) (J 15) (J 16) (J 17) (J 18) (J 19) (J 20) (J 21) (J 22) (J 23) (J 24) (J 25) (J 26) (J 27) (J 28), arI X (d 1) 122 v, arI X (d 4) 122 w, arI X (d 6) 500 T, arA X (d 2) 8 (rq r q)] ++ ((rwW X r C))) rfl dX8_runScript_106 (fun H locs hw => ?_)
            refine lv_aload_n Ex Eb dX8_runScript_109 rfl (lv_at hl 0 rfl) ?_
            refine lv_aload_n Ex Eb dX8_runScript_110 rfl (lv_at hl 0 rfl) ?_
            refine lo_get E hK hw huRX8 24 hf217 rfl 0 rfl rfl (by decide) (v := .int (iI (J 24))) rfl dX8_runScript_111 ?_
            refine lo_put E hK hw huRX8 tyX8 tyX8_ok nmX8 26 hf270 rfl 0 rfl rfl (by decide) rfl rfl rfl rfl (Nat.le_of_ble_eq_true rfl) (ws' := [oX8 (d 0) (J 0) (d 1) (d 2) (J 3) (d 3) (J 5) (d 4) (d 5) (d 6) 0 (d 7) (J 11) (J 12) (J 13) (J 14) (J 15) (J 16) (J 17) (J 18) (J 19) (J 20) (J 21) (J 22) (J 23) (J 24) (J 25) (J 24) (J 27) (J 28), arI X (d 1) 122 v, arI X (d 4) 122 w, arI X (d 6) 500 T, arA X (d 2) 8 (rq r q)] ++ ((rwW X r C))) rfl dX8_runScript_114 (fun H locs hw => ?_)
            refine lv_aload_n Ex Eb dX8_runScript_117 rfl (lv_at hl 0 rfl) ?_
            refine lv_aload_n Ex Eb dX8_runScript_118 rfl (lv_at hl 0 rfl) ?_
            refine lo_get E hK hw huRX8 25 hf229 rfl 0 rfl rfl (by decide) (v := .int (iI (J 25))) rfl dX8_runScript_119 ?_
            refine lo_put E hK hw huRX8 tyX8 tyX8_ok nmX8 27 hf34 rfl 0 rfl rfl (by decide) rfl rfl rfl rfl (Nat.le_of_ble_eq_true rfl) (ws' := [oX8 (d 0) (J 0) (d 1) (d 2) (J 3) (d 3) (J 5) (d 4) (d 5) (d 6) 0 (d 7) (J 11) (J 12) (J 13) (J 14) (J 15) (J 16) (J 17) (J 18) (J 19) (J 20) (J 21) (J 22) (J 23) (J 24) (J 25) (J 24) (J 25) (J 28), arI X (d 1) 122 v, arI X (d 4) 122 w, arI X (d 6) 500 T, arA X (d 2) 8 (rq r q)] ++ ((rwW X r C))) rfl dX8_runScript_122 (fun H locs hw => ?_)
            refine lv_aload_n Ex Eb dX8_runScript_125 rfl (lv_at hl 0 rfl) ?_
            refine lo_callV (q0 := 0) (rest := []) E hK hw (kX8_good l X d (uI (uI (uI J 9 0) 26 (J 24)) 27 (J 25)) (show i32 ((J 24)) by omega)) (cwV 0 E.2.2.2.2 gX8_runScript_X8_good rfl rfl rfl (by decide +kernel) ⟨Nat.le_of_ble_eq_true rfl, Nat.le_of_ble_eq_true rfl⟩) rfl rfl [0] rfl (by decide) hl.1 rfl rfl (Nat.le_of_ble_eq_true rfl) dX8_runScript_126 ⟨Nat.le_of_ble_eq_true rfl, Nat.le_of_ble_eq_true rfl⟩ (fun v w1 H locs hq hw => ?_)
            obtain ⟨z4, q126_0, rfl, rfl⟩ := hq
            change (z4 = 1 ∧ (J 24) = 0) ∨ (z4 = 0 ∧ (J 24) ≠ 0) at q126_0
            have hw : lo_Wd X ([oX8 (d 0) (J 0) (d 1) (d 2) (J 3) (d 3) (J 5) (d 4) (d 5) (d 6) 0 (d 7) (J 11) (J 12) (J 13) (J 14) (J 15) (J 16) (J 17) (J 18) (J 19) (J 20) (J 21) (J 22) (J 23) (J 24) (J 25) (J 24) (J 25) (J 28), arI X (d 1) 122 v, arI X (d 4) 122 w, arI X (d 6) 500 T, arA X (d 2) 8 (rq r q)] ++ ((rwW X r C))) A9 s9.heap H locs := hw
            refine W.eq (g2 := F0 m9 129 ls [.int (iI z4)]) rfl ?_
            refine lo_if_ne (tgt := 145) E dX8_runScript_129 (by decide) (by omega) (fun c5 => ?_) (fun c5 => ?_)
            · skip
              refine lv_aload_n Ex Eb dX8_runScript_145 rfl (lv_at hl 0 rfl) ?_
              refine lv_aload_n Ex Eb dX8_runScript_146 rfl (lv_at hl 0 rfl) ?_
              refine lo_get E hK hw huRX8 6 hf21 rfl 0 rfl rfl (by decide) (v := .ref (d 4)) rfl dX8_runScript_147 ?_
              refine lo_callVE (q0 := 0) (rest := []) E hK hw hV (kX8_remember l X kS d r q (uI (uI (uI J 9 0) 26 (J 24)) 27 (J 25)) C (d 4) w (by show 0 ≤ J 3 ∧ J 3 ≤ 8; omega) (hq)) (cwV 1 E.2.2.2.2 gX8_runScript_X8_remember rfl rfl rfl (by decide +kernel) ⟨Nat.le_of_ble_eq_true rfl, Nat.le_of_ble_eq_true rfl⟩) rfl rfl [0, 2, 4, 5, 6, 7, 8, 9, 10, 11, 12] rfl (by decide) hl.1 rfl rfl (Nat.le_of_ble_eq_true rfl) dX8_runScript_150 ⟨Nat.le_of_ble_eq_true rfl, Nat.le_of_ble_eq_true rfl⟩ (fun v w1 H locs hq hw => ?_)
              obtain ⟨rfl, rfl⟩ := hq
              have hw : lo_Wd X ([oX8 (d 0) (J 0) (d 1) (d 2) (min ((J 3) + 1) 8) (d 3) (J 5) (d 4) (d 5) (d 6) 0 (d 7) (J 11) (J 12) (J 13) (J 14) (J 15) (J 16) (J 17) (J 18) (J 19) (J 20) (J 21) (J 22) (J 23) (J 24) (J 25) (J 24) (J 25) (J 28), arI X (d 1) 122 v, arI X (d 4) 122 w, arI X (d 6) 500 T, arA X (d 2) 8 (rq r (rmQ q (J 3)))] ++ ((rwW X r (rmC C q (J 3) w)))) A9 s9.heap H locs := hw
              refine W.eq (g2 := F0 m9 153 ls []) rfl ?_
              refine lv_aload_n Ex Eb dX8_runScript_153 rfl (lv_at hl 0 rfl) ?_
              refine lo_get E hK hw huRX8 1 hf9 rfl 0 rfl rfl (by decide) (v := .ref (d 1)) rfl dX8_runScript_154 ?_
              refine lv_iconst (v := iI 0) Ex Eb dX8_runScript_157 rfl ?_
              refine lo_iald E hK hw 1 rfl (by omega) dX8_runScript_158 ?_
              refine W.eq (g2 := F0 m9 159 ls [.int (iI (v 0))]) rfl ?_
              exact lo_iret E hRt hLk hK hAe hw dX8_runScript_159 rfl ⟨uI (uI (uI (uI J 3 (min ((J 3) + 1) 8)) 9 0) 26 (J 24)) 27 (J 25), v, w, rmQ q (J 3), rmC C q (J 3) w, v 0, (⟨v, Or.inl ⟨by show J 24 = 0; omega, SRR_fin iv79_1 (by omega) (iv79_0 (by omega)) (by omega)⟩, fun _ => rfl⟩), (Or.inl ⟨by show J 24 = 0; omega, rfl, by rw [hJ3], by rw [hJ3], by show min (J 3 + 1) 8 = min (M 3 + 1) 8; rw [hJ3]⟩), (⟨hJ0, rfl, hJ5, hJ11⟩), (by show (0 ≤ J 23 ∧ J 23 ≤ 9999999) ∧ 0 ≤ J 24 ∧ J 24 ≤ 9; omega), (iv79_3), (iv79_7), rfl, rfl⟩
            · skip
              refine lv_aload_n Ex Eb dX8_runScript_132 rfl (lv_at hl 0 rfl) ?_
              refine lo_get E hK hw huRX8 6 hf21 rfl 0 rfl rfl (by decide) (v := .ref (d 4)) rfl dX8_runScript_133 ?_
              refine lv_aload_n Ex Eb dX8_runScript_136 rfl (lv_at hl 0 rfl) ?_
              refine lo_get E hK hw huRX8 1 hf9 rfl 0 rfl rfl (by decide) (v := .ref (d 1)) rfl dX8_runScript_137 ?_
              refine lo_callS (rest := []) E hK hw (kX8_copy l X (d 4) (d 1) w v ) (cwS 2 E.2.2.2.2 gX8_runScript_X8_copy rfl rfl rfl (by decide +kernel) ⟨Nat.le_of_ble_eq_true rfl, Nat.le_of_ble_eq_true rfl⟩) [2, 1] rfl (by decide) hl.1 rfl rfl (Nat.le_of_ble_eq_true rfl) dX8_runScript_140 ⟨Nat.le_of_ble_eq_true rfl, Nat.le_of_ble_eq_true rfl⟩ (fun v w1 H locs hq hw => ?_)
              obtain ⟨rfl, rfl⟩ := hq
              have hw : lo_Wd X ([oX8 (d 0) (J 0) (d 1) (d 2) (J 3) (d 3) (J 5) (d 4) (d 5) (d 6) 0 (d 7) (J 11) (J 12) (J 13) (J 14) (J 15) (J 16) (J 17) (J 18) (J 19) (J 20) (J 21) (J 22) (J 23) (J 24) (J 25) (J 24) (J 25) (J 28), arI X (d 1) 122 w, arI X (d 4) 122 w, arI X (d 6) 500 T, arA X (d 2) 8 (rq r q)] ++ ((rwW X r C))) A9 s9.heap H locs := hw
              refine W.eq (g2 := F0 m9 143 ls []) rfl ?_
              refine lv_iconst (v := iI (-1)) Ex Eb dX8_runScript_143 rfl ?_
              exact lo_iret E hRt hLk hK hAe hw dX8_runScript_144 rfl ⟨uI (uI (uI J 9 0) 26 (J 24)) 27 (J 25), w, w, q, C, -1, (⟨w, Or.inr ⟨by show J 24 ≠ 0; omega, SRR_bad iv79_1 (show J 24 ≠ 0 by omega)⟩, fun h => absurd (show J 24 = 0 from h) (by omega)⟩), (Or.inr ⟨by show J 24 ≠ 0; omega, rfl, rfl, rfl, rfl, hJ3⟩), (⟨hJ0, rfl, hJ5, hJ11⟩), (by show (0 ≤ J 23 ∧ J 23 ≤ 9999999) ∧ 0 ≤ J 24 ∧ J 24 ≤ 9; omega), (hWI), (iv79_7), rfl, rfl⟩
          · skip
            refine lv_aload_n Ex Eb dX8_runScript_86 rfl (lv_at hl 0 rfl) ?_
            refine lo_get E hK hw huRX8 22 hf205 rfl 0 rfl rfl (by decide) (v := .int (iI (J 22))) rfl dX8_runScript_87 ?_
            refine lo_if_eq (tgt := 104) E dX8_runScript_90 (by decide) (by omega) (fun c6 => ?_) (fun c6 => ?_)
            · skip
              refine lv_aload_n Ex Eb dX8_runScript_104 rfl (lv_at hl 0 rfl) ?_
              refine lv_iconst (v := iI 0) Ex Eb dX8_runScript_105 rfl ?_
              refine lo_put E hK hw huRX8 tyX8 tyX8_ok nmX8 9 hf196 rfl 0 rfl rfl (by decide) rfl rfl rfl rfl (Nat.le_of_ble_eq_true rfl) (ws' := [oX8 (d 0) (J 0) (d 1) (d 2) (J 3) (d 3) (J 5) (d 4) (d 5) (d 6) 0 (d 7) (J 11) (J 12) (J 13) (J 14) (J 15) (J 16) (J 17) (J 18) (J 19) (J 20) (J 21) (J 22) (J 23) (J 24) (J 25) (J 26) (J 27) (J 28), arI X (d 1) 122 v, arI X (d 4) 122 w, arI X (d 6) 500 T, arA X (d 2) 8 (rq r q)] ++ ((rwW X r C))) rfl dX8_runScript_106 (fun H locs hw => ?_)
              refine lv_aload_n Ex Eb dX8_runScript_109 rfl (lv_at hl 0 rfl) ?_
              refine lv_aload_n Ex Eb dX8_runScript_110 rfl (lv_at hl 0 rfl) ?_
              refine lo_get E hK hw huRX8 24 hf217 rfl 0 rfl rfl (by decide) (v := .int (iI (J 24))) rfl dX8_runScript_111 ?_
              refine lo_put E hK hw huRX8 tyX8 tyX8_ok nmX8 26 hf270 rfl 0 rfl rfl (by decide) rfl rfl rfl rfl (Nat.le_of_ble_eq_true rfl) (ws' := [oX8 (d 0) (J 0) (d 1) (d 2) (J 3) (d 3) (J 5) (d 4) (d 5) (d 6) 0 (d 7) (J 11) (J 12) (J 13) (J 14) (J 15) (J 16) (J 17) (J 18) (J 19) (J 20) (J 21) (J 22) (J 23) (J 24) (J 25) (J 24) (J 27) (J 28), arI X (d 1) 122 v, arI X (d 4) 122 w, arI X (d 6) 500 T, arA X (d 2) 8 (rq r q)] ++ ((rwW X r C))) rfl dX8_runScript_114 (fun H locs hw => ?_)
              refine lv_aload_n Ex Eb dX8_runScript_117 rfl (lv_at hl 0 rfl) ?_
              refine lv_aload_n Ex Eb dX8_runScript_118 rfl (lv_at hl 0 rfl) ?_
              refine lo_get E hK hw huRX8 25 hf229 rfl 0 rfl rfl (by decide) (v := .int (iI (J 25))) rfl dX8_runScript_119 ?_
              refine lo_put E hK hw huRX8 tyX8 tyX8_ok nmX8 27 hf34 rfl 0 rfl rfl (by decide) rfl rfl rfl rfl (Nat.le_of_ble_eq_true rfl) (ws' := [oX8 (d 0) (J 0) (d 1) (d 2) (J 3) (d 3) (J 5) (d 4) (d 5) (d 6) 0 (d 7) (J 11) (J 12) (J 13) (J 14) (J 15) (J 16) (J 17) (J 18) (J 19) (J 20) (J 21) (J 22) (J 23) (J 24) (J 25) (J 24) (J 25) (J 28), arI X (d 1) 122 v, arI X (d 4) 122 w, arI X (d 6) 500 T, arA X (d 2) 8 (rq r q)] ++ ((rwW X r C))) rfl dX8_runScript_122 (fun H locs hw => ?_)
              refine lv_aload_n Ex Eb dX8_runScript_125 rfl (lv_at hl 0 rfl) ?_
              refine lo_callV (q0 := 0) (rest := []) E hK hw (kX8_good l X d (uI (uI (uI J 9 0) 26 (J 24)) 27 (J 25)) (show i32 ((J 24)) by omega)) (cwV 0 E.2.2.2.2 gX8_runScript_X8_good rfl rfl rfl (by decide +kernel) ⟨Nat.le_of_ble_eq_true rfl, Nat.le_of_ble_eq_true rfl⟩) rfl rfl [0] rfl (by decide) hl.1 rfl rfl (Nat.le_of_ble_eq_true rfl) dX8_runScript_126 ⟨Nat.le_of_ble_eq_true rfl, Nat.le_of_ble_eq_true rfl⟩ (fun v w1 H locs hq hw => ?_)
              obtain ⟨z7, q126_0, rfl, rfl⟩ := hq
              change (z7 = 1 ∧ (J 24) = 0) ∨ (z7 = 0 ∧ (J 24) ≠ 0) at q126_0
              have hw : lo_Wd X ([oX8 (d 0) (J 0) (d 1) (d 2) (J 3) (d 3) (J 5) (d 4) (d 5) (d 6) 0 (d 7) (J 11) (J 12) (J 13) (J 14) (J 15) (J 16) (J 17) (J 18) (J 19) (J 20) (J 21) (J 22) (J 23) (J 24) (J 25) (J 24) (J 25) (J 28), arI X (d 1) 122 v, arI X (d 4) 122 w, arI X (d 6) 500 T, arA X (d 2) 8 (rq r q)] ++ ((rwW X r C))) A9 s9.heap H locs := hw
              refine W.eq (g2 := F0 m9 129 ls [.int (iI z7)]) rfl ?_
              refine lo_if_ne (tgt := 145) E dX8_runScript_129 (by decide) (by omega) (fun c8 => ?_) (fun c8 => ?_)
              · skip
                refine lv_aload_n Ex Eb dX8_runScript_145 rfl (lv_at hl 0 rfl) ?_
                refine lv_aload_n Ex Eb dX8_runScript_146 rfl (lv_at hl 0 rfl) ?_
                refine lo_get E hK hw huRX8 6 hf21 rfl 0 rfl rfl (by decide) (v := .ref (d 4)) rfl dX8_runScript_147 ?_
                refine lo_callVE (q0 := 0) (rest := []) E hK hw hV (kX8_remember l X kS d r q (uI (uI (uI J 9 0) 26 (J 24)) 27 (J 25)) C (d 4) w (by show 0 ≤ J 3 ∧ J 3 ≤ 8; omega) (hq)) (cwV 1 E.2.2.2.2 gX8_runScript_X8_remember rfl rfl rfl (by decide +kernel) ⟨Nat.le_of_ble_eq_true rfl, Nat.le_of_ble_eq_true rfl⟩) rfl rfl [0, 2, 4, 5, 6, 7, 8, 9, 10, 11, 12] rfl (by decide) hl.1 rfl rfl (Nat.le_of_ble_eq_true rfl) dX8_runScript_150 ⟨Nat.le_of_ble_eq_true rfl, Nat.le_of_ble_eq_true rfl⟩ (fun v w1 H locs hq hw => ?_)
                obtain ⟨rfl, rfl⟩ := hq
                have hw : lo_Wd X ([oX8 (d 0) (J 0) (d 1) (d 2) (min ((J 3) + 1) 8) (d 3) (J 5) (d 4) (d 5) (d 6) 0 (d 7) (J 11) (J 12) (J 13) (J 14) (J 15) (J 16) (J 17) (J 18) (J 19) (J 20) (J 21) (J 22) (J 23) (J 24) (J 25) (J 24) (J 25) (J 28), arI X (d 1) 122 v, arI X (d 4) 122 w, arI X (d 6) 500 T, arA X (d 2) 8 (rq r (rmQ q (J 3)))] ++ ((rwW X r (rmC C q (J 3) w)))) A9 s9.heap H locs := hw
                refine W.eq (g2 := F0 m9 153 ls []) rfl ?_
                refine lv_aload_n Ex Eb dX8_runScript_153 rfl (lv_at hl 0 rfl) ?_
                refine lo_get E hK hw huRX8 1 hf9 rfl 0 rfl rfl (by decide) (v := .ref (d 1)) rfl dX8_runScript_154 ?_
                refine lv_iconst (v := iI 0) Ex Eb dX8_runScript_157 rfl ?_
                refine lo_iald E hK hw 1 rfl (by omega) dX8_runScript_158 ?_
                refine W.eq (g2 := F0 m9 159 ls [.int (iI (v 0))]) rfl ?_
                exact lo_iret E hRt hLk hK hAe hw dX8_runScript_159 rfl ⟨uI (uI (uI (uI J 3 (min ((J 3) + 1) 8)) 9 0) 26 (J 24)) 27 (J 25), v, w, rmQ q (J 3), rmC C q (J 3) w, v 0, (⟨v, Or.inl ⟨by show J 24 = 0; omega, SRR_fin iv79_1 (by omega) (iv79_0 (by omega)) (by omega)⟩, fun _ => rfl⟩), (Or.inl ⟨by show J 24 = 0; omega, rfl, by rw [hJ3], by rw [hJ3], by show min (J 3 + 1) 8 = min (M 3 + 1) 8; rw [hJ3]⟩), (⟨hJ0, rfl, hJ5, hJ11⟩), (by show (0 ≤ J 23 ∧ J 23 ≤ 9999999) ∧ 0 ≤ J 24 ∧ J 24 ≤ 9; omega), (iv79_3), (iv79_7), rfl, rfl⟩
              · skip
                refine lv_aload_n Ex Eb dX8_runScript_132 rfl (lv_at hl 0 rfl) ?_
                refine lo_get E hK hw huRX8 6 hf21 rfl 0 rfl rfl (by decide) (v := .ref (d 4)) rfl dX8_runScript_133 ?_
                refine lv_aload_n Ex Eb dX8_runScript_136 rfl (lv_at hl 0 rfl) ?_
                refine lo_get E hK hw huRX8 1 hf9 rfl 0 rfl rfl (by decide) (v := .ref (d 1)) rfl dX8_runScript_137 ?_
                refine lo_callS (rest := []) E hK hw (kX8_copy l X (d 4) (d 1) w v ) (cwS 2 E.2.2.2.2 gX8_runScript_X8_copy rfl rfl rfl (by decide +kernel) ⟨Nat.le_of_ble_eq_true rfl, Nat.le_of_ble_eq_true rfl⟩) [2, 1] rfl (by decide) hl.1 rfl rfl (Nat.le_of_ble_eq_true rfl) dX8_runScript_140 ⟨Nat.le_of_ble_eq_true rfl, Nat.le_of_ble_eq_true rfl⟩ (fun v w1 H locs hq hw => ?_)
                obtain ⟨rfl, rfl⟩ := hq
                have hw : lo_Wd X ([oX8 (d 0) (J 0) (d 1) (d 2) (J 3) (d 3) (J 5) (d 4) (d 5) (d 6) 0 (d 7) (J 11) (J 12) (J 13) (J 14) (J 15) (J 16) (J 17) (J 18) (J 19) (J 20) (J 21) (J 22) (J 23) (J 24) (J 25) (J 24) (J 25) (J 28), arI X (d 1) 122 w, arI X (d 4) 122 w, arI X (d 6) 500 T, arA X (d 2) 8 (rq r q)] ++ ((rwW X r C))) A9 s9.heap H locs := hw
                refine W.eq (g2 := F0 m9 143 ls []) rfl ?_
                refine lv_iconst (v := iI (-1)) Ex Eb dX8_runScript_143 rfl ?_
                exact lo_iret E hRt hLk hK hAe hw dX8_runScript_144 rfl ⟨uI (uI (uI J 9 0) 26 (J 24)) 27 (J 25), w, w, q, C, -1, (⟨w, Or.inr ⟨by show J 24 ≠ 0; omega, SRR_bad iv79_1 (show J 24 ≠ 0 by omega)⟩, fun h => absurd (show J 24 = 0 from h) (by omega)⟩), (Or.inr ⟨by show J 24 ≠ 0; omega, rfl, rfl, rfl, rfl, hJ3⟩), (⟨hJ0, rfl, hJ5, hJ11⟩), (by show (0 ≤ J 23 ∧ J 23 ≤ 9999999) ∧ 0 ≤ J 24 ∧ J 24 ≤ 9; omega), (hWI), (iv79_7), rfl, rfl⟩
            · skip
              have tq := iv79_0 (by omega)
              have rq9 := TR_r (by omega) tq
              refine lv_aload_n Ex Eb dX8_runScript_93 rfl (lv_at hl 0 rfl) ?_
              refine lo_callVE (q0 := 0) (rest := []) E hK hw hV (kX8_command_0 l X kS d J v T qp (by omega) (hT) (iv79_3) (by rw [hJ9]; exact tq) (by omega) (by omega) (by omega) (hJ18) (by omega) (by exact TR_nend (by rw [hJ9]; exact tq) (by omega)) (fun h9 => absurd h9.2.2 (by omega))) (cwV 0 E.2.2.2.2 gX8_runScript_X8_command rfl rfl rfl (by decide +kernel) ⟨Nat.le_of_ble_eq_true rfl, Nat.le_of_ble_eq_true rfl⟩) rfl rfl [0, 1, 3] rfl (by decide) hl.1 rfl rfl (Nat.le_of_ble_eq_true rfl) dX8_runScript_94 ⟨Nat.le_of_ble_eq_true rfl, Nat.le_of_ble_eq_true rfl⟩ (fun v w1 H locs hq hw => ?_)
              obtain ⟨N5, u5, q94_0, q94_1, q94_2, q94_3, q94_4, q94_5, rfl, rfl⟩ := hq
              have hN9 : N5 9 = M 9 := (q94_1 9 (by omega)).trans hJ9
              have hw : lo_Wd X ([oX8 (d 0) (N5 0) (d 1) (d 2) (N5 3) (d 3) (N5 5) (d 4) (d 5) (d 6) (N5 9) (d 7) (N5 11) (N5 12) (N5 13) (N5 14) (N5 15) (N5 16) (N5 17) (N5 18) (N5 19) (N5 20) (N5 21) (N5 22) (N5 23) (N5 24) (N5 25) (N5 26) (N5 27) (N5 28), arI X (d 1) 122 u5, arI X (d 4) 122 w, arI X (d 6) 500 T, arA X (d 2) 8 (rq r q)] ++ ((rwW X r C))) A9 s9.heap H locs := hw
              refine W.eq (g2 := F0 m9 97 ls []) rfl ?_
              refine lv_aload_n Ex Eb dX8_runScript_97 rfl (lv_at hl 0 rfl) ?_
              refine lo_callV (q0 := 0) (rest := []) E hK hw (kX8_advance l X d N5 T (by omega) (by omega) (by omega) (by omega) (by omega)) (cwV 0 E.2.2.2.2 gX8_runScript_X8_advance rfl rfl rfl (by decide +kernel) ⟨Nat.le_of_ble_eq_true rfl, Nat.le_of_ble_eq_true rfl⟩) rfl rfl [0, 3] rfl (by decide) hl.1 rfl rfl (Nat.le_of_ble_eq_true rfl) dX8_runScript_98 ⟨Nat.le_of_ble_eq_true rfl, Nat.le_of_ble_eq_true rfl⟩ (fun v w1 H locs hq hw => ?_)
              obtain ⟨b5, a5, k5, g5, q98_0, q98_1, rfl, rfl⟩ := hq
              have ak5 := ADV_k q98_0 (by omega) (by omega)
              have hw : lo_Wd X ([oX8 (d 0) (N5 0) (d 1) (d 2) (N5 3) (d 3) (N5 5) (d 4) (d 5) (d 6) (N5 9) (d 7) (N5 11) (N5 12) (N5 13) (N5 14) (N5 15) (N5 16) (N5 17) (N5 18) (N5 19) a5 b5 k5 g5 (N5 24) (N5 25) (N5 26) (N5 27) (N5 28), arI X (d 1) 122 u5, arI X (d 4) 122 w, arI X (d 6) 500 T, arA X (d 2) 8 (rq r q)] ++ ((rwW X r C))) A9 s9.heap H locs := hw
              refine W.eq (g2 := F0 m9 101 ls []) rfl ?_
              refine lv_goto (tgt := 79) Ex Eb dX8_runScript_101 (by decide) ?_
              exact ih79 (uI (uI (uI (uI N5 20 a5) 21 b5) 22 k5) 23 g5) u5 (N5 20) (MS_lt (by omega) (show N5 24 ≠ 0 ∨ (qp < N5 20 ∧ N5 20 ≤ M 9) by omega) hn79) (fun h => by have h9 := ADV_f h q98_0; rw [hN9] at h9; exact h9) (SRR_tr iv79_1 (by omega) (by have h9 := q94_0; rw [hJ18, hJ9] at h9; exact h9)) (by repeat (first | refine KPC_u (by omega) ?_ | exact iv79_2.tr q94_1)) (q94_2) (by show N5 24 ≠ 0 ∨ (0 ≤ N5 20 ∧ N5 20 ≤ M 9); omega) (by show (0 ≤ a5 ∧ a5 ≤ M 9) ∧ (0 ≤ g5 ∧ g5 ≤ 9999999) ∧ (0 ≤ N5 24 ∧ N5 24 ≤ 9) ∧ (0 ≤ k5 ∧ k5 ≤ 6) ∧ 0 ≤ N5 19 ∧ N5 19 ≤ 301; omega) (by have h9 := BDY_x q94_0; show N5 24 ≠ 0 ∨ N5 19 ≤ 300; exact h9) (fun h9 => (q94_5 h9).trans (iv79_7 (by omega))) _ _ _ hw (lv_sub hl [0] rfl)
      exact lp79 _ (uI (uI (uI (uI (uI (uI (uI (uI (uI M 0 0) 18 0) 19 0) 20 a2) 21 b2) 22 k2) 23 g2) 24 ek) 25 eo) v a1 (Nat.lt_succ_self _) (fun h => ADV_f h q76_0) (hs0) (by repeat (first | refine KPC_u (by omega) ?_ | exact KPC.rf _)) (hWv) (Or.inr (by omega)) (by show (0 ≤ a2 ∧ a2 ≤ M 9) ∧ (0 ≤ g2 ∧ g2 ≤ 9999999) ∧ (0 ≤ ek ∧ ek ≤ 9) ∧ (0 ≤ k2 ∧ k2 ≤ 6) ∧ (0:Int) ≤ 0 ∧ (0:Int) ≤ 301; omega) (Or.inr (by show (0:Int) ≤ 300; omega)) (ho5) _ _ _ hw (lv_sub hl [0] rfl)
    refine lo_if_eq (tgt := 75) E dX8_runScript_68 (by decide) (by omega) (fun c10 => ?_) (fun c10 => ?_)
    · skip
      exact jn75 w (by first | exact Or.inl ⟨by omega, rfl⟩ | exact Or.inr ⟨by omega, rfl⟩) _ _ _ hw (lv_sub hl [0] rfl)
    · skip
      refine lv_aload_n Ex Eb dX8_runScript_71 rfl (lv_at hl 0 rfl) ?_
      refine lo_callV (q0 := 0) (rest := []) E hK hw (kX8_start l X d (uI (uI (uI (uI (uI (uI (uI (uI (uI M 0 0) 18 0) 19 0) 20 a1) 21 b1) 22 k1) 23 g1) 24 ek) 25 eo) w ) (cwV 0 E.2.2.2.2 gX8_runScript_X8_start rfl rfl rfl (by decide +kernel) ⟨Nat.le_of_ble_eq_true rfl, Nat.le_of_ble_eq_true rfl⟩) rfl rfl [0, 1] rfl (by decide) hl.1 rfl rfl (Nat.le_of_ble_eq_true rfl) dX8_runScript_72 ⟨Nat.le_of_ble_eq_true rfl, Nat.le_of_ble_eq_true rfl⟩ (fun v w1 H locs hq hw => ?_)
      obtain ⟨rfl, rfl⟩ := hq
      have hw : lo_Wd X ([oX8 (d 0) 0 (d 1) (d 2) (M 3) (d 3) (M 5) (d 4) (d 5) (d 6) (M 9) (d 7) (M 11) (M 12) (M 13) (M 14) (M 15) (M 16) (M 17) 0 0 a1 b1 k1 g1 ek eo (M 26) (M 27) (M 28), arI X (d 1) 122 (fun _ => 0), arI X (d 4) 122 w, arI X (d 6) 500 T, arA X (d 2) 8 (rq r q)] ++ ((rwW X r C))) A9 s9.heap H locs := hw
      refine W.eq (g2 := F0 m9 75 ls []) rfl ?_
      exact jn75 (fun _ => 0) (by first | exact Or.inl ⟨by omega, rfl⟩ | exact Or.inr ⟨by omega, rfl⟩) _ _ _ hw (lv_sub hl [0] rfl)
  refine lo_if_ne (tgt := 59) E dX8_runScript_51 (by decide) (by omega) (fun c11 => ?_) (fun c11 => ?_)
  · skip
    exact jn59 0 (-1) (by first | exact Or.inl ⟨by omega, (wdY q48_0 (by omega)).2⟩ | exact Or.inr ⟨by omega, by omega, fun h => wdN q48_0 (by omega) ⟨rfl, h⟩⟩) (by omega) (fun h9 => by first | rfl | omega) _ _ _ hw (lv_sub hl [0] rfl)
  · skip
    refine lv_aload_n Ex Eb dX8_runScript_54 rfl (lv_at hl 0 rfl) ?_
    refine lv_iconst (v := iI 1) Ex Eb dX8_runScript_55 rfl ?_
    refine lo_callV (q0 := 0) (rest := []) E hK hw (kX8_fail l X d (uI (uI (uI (uI (uI (uI (uI (uI (uI M 0 0) 18 0) 19 0) 20 a0) 21 (spE pSp T (M 9) 0)) 22 k0) 23 g0) 24 0) 25 (-1)) 1 (show i32 (0) by omega)) (cwV 1 E.2.2.2.2 gX8_runScript_X8_fail rfl rfl rfl (by decide +kernel) ⟨Nat.le_of_ble_eq_true rfl, Nat.le_of_ble_eq_true rfl⟩) rfl rfl [0] rfl (by decide) hl.1 rfl rfl (Nat.le_of_ble_eq_true rfl) dX8_runScript_56 ⟨Nat.le_of_ble_eq_true rfl, Nat.le_of_ble_eq_true rfl⟩ (fun v w1 H locs hq hw => ?_)
    obtain ⟨e1, o1, q56_0, rfl, rfl⟩ := hq
    change (0 = 0 ∧ e1 = 1 ∧ o1 = (spE pSp T (M 9) 0)) ∨ (0 ≠ 0 ∧ e1 = 0 ∧ o1 = (-1)) at q56_0
    have hw : lo_Wd X ([oX8 (d 0) 0 (d 1) (d 2) (M 3) (d 3) (M 5) (d 4) (d 5) (d 6) (M 9) (d 7) (M 11) (M 12) (M 13) (M 14) (M 15) (M 16) (M 17) 0 0 a0 (spE pSp T (M 9) 0) k0 g0 e1 o1 (M 26) (M 27) (M 28), arI X (d 1) 122 w, arI X (d 4) 122 w, arI X (d 6) 500 T, arA X (d 2) 8 (rq r q)] ++ ((rwW X r C))) A9 s9.heap H locs := hw
    refine W.eq (g2 := F0 m9 59 ls []) rfl ?_
    exact jn59 e1 o1 (by first | exact Or.inl ⟨by omega, (wdY q48_0 (by omega)).2⟩ | exact Or.inr ⟨by omega, by omega, fun h => wdN q48_0 (by omega) ⟨rfl, h⟩⟩) (by omega) (fun h9 => by first | rfl | omega) _ _ _ hw (lv_sub hl [0] rfl)
