set_option maxHeartbeats 4000000 in
set_option maxRecDepth 100000 in
theorem kX8_payAll (l : Launch) (X : KX) (kS : Nat → Nat) (d r q : Nat → Nat) (M : Nat → Int) (C : Nat → Nat → Int) (w : Nat → Int) (hpc : 0 ≤ M 3 ∧ M 3 ≤ 8) (hq : ∀ j, j < 8 → q j < 8) (hWI : WI w) : CE l X kS yX8_payAll wsX8_payAll ({ frames := 5, cells := 0, slots := 0, locals := 110 }) [.ref (d 0)] ([oX8 (d 0) (M 0) (d 1) (d 2) (M 3) (d 3) (M 5) (d 4) (d 5) (d 6) (M 9) (d 7) (M 11) (M 12) (M 13) (M 14) (M 15) (M 16) (M 17) (M 18) (M 19) (M 20) (M 21) (M 22) (M 23) (M 24) (M 25) (M 26) (M 27) (M 28), arI X (d 1) 122 w, arA X (d 2) 8 (rq r q)] ++ ((rwW X r C))) (fun v9 w9 => ∃ N : Nat → Int, ∃ u : Nat → Int, ∃ p : Nat → Nat, ∃ K : Nat → Nat → Int, ∃ z : Int, (sameQ M N) ∧ ((N 0 = 0 ∧ (True) ∧ u = wAll w (w 0).toNat ∧ z = wSum w (w 0).toNat ∧ N 3 = min (M 3 + 1) 8 ∧ p = rmQ q (M 3) ∧ K = rmC C q (M 3) w)) ∧ v9 = some (.int (iI z)) ∧ w9 = [oX8 (d 0) (N 0) (d 1) (d 2) (N 3) (d 3) (N 5) (d 4) (d 5) (d 6) (N 9) (d 7) (N 11) (N 12) (N 13) (N 14) (N 15) (N 16) (N 17) (N 18) (N 19) (N 20) (N 21) (N 22) (N 23) (N 24) (N 25) (N 26) (N 27) (N 28), arI X (d 1) 122 u, arA X (d 2) 8 (rq r p)] ++ ((rwW X r K))) 0 0 := by
  refine lo_enterE (cc := cX8_payAll) (maxL := 1) (ret := (some .int)) (lv := [(0, .ref (d 0))]) (by decide) rfl rfl (Nat.le_of_ble_eq_true rfl) ?_
  intro p9 e9 s9 m9 bl9 me9 c9 A9 ls hAe E hRt hLk hK hl hw hV
  have Ex := E.1
  have Eb := E.2.1
  have huRX8 : ∀ w ∈ u_ws RX8 TX8 29, w ∈ wsX8_payAll := by decide +kernel
  have hf56 : (Cond.fieldLink RX8 56 "LoanScheduleModel" "thrown" "I").before _ s9 = true := E.2.2.2.2 _ (List.mem_of_getElem? (i := 1) rfl)
  have hf9 : (Cond.fieldLink RX8 9 "LoanScheduleModel" "w" "[I").before _ s9 = true := E.2.2.2.2 _ (List.mem_of_getElem? (i := 2) rfl)
  obtain ⟨⟨hn0, hn1⟩, ⟨hb0, hb1⟩, hL⟩ := id hWI
  refine lv_aload_n Ex Eb dX8_payAll_0 rfl (lv_at hl 0 rfl) ?_
  refine lv_iconst (v := iI 0) Ex Eb dX8_payAll_1 rfl ?_
  refine lo_put E hK hw huRX8 tyX8 tyX8_ok nmX8 0 hf56 rfl 0 rfl rfl (by decide) rfl rfl rfl rfl (Nat.le_of_ble_eq_true rfl) (ws' := [oX8 (d 0) 0 (d 1) (d 2) (M 3) (d 3) (M 5) (d 4) (d 5) (d 6) (M 9) (d 7) (M 11) (M 12) (M 13) (M 14) (M 15) (M 16) (M 17) (M 18) (M 19) (M 20) (M 21) (M 22) (M 23) (M 24) (M 25) (M 26) (M 27) (M 28), arI X (d 1) 122 w, arA X (d 2) 8 (rq r q)] ++ ((rwW X r C))) rfl dX8_payAll_2 (fun H locs hw => ?_)
  refine lv_aload_n Ex Eb dX8_payAll_5 rfl (lv_at hl 0 rfl) ?_
  refine lv_aload_n Ex Eb dX8_payAll_6 rfl (lv_at hl 0 rfl) ?_
  refine lo_get E hK hw huRX8 1 hf9 rfl 0 rfl rfl (by decide) (v := .ref (d 1)) rfl dX8_payAll_7 ?_
  refine lo_callVE (q0 := 0) (rest := []) E hK hw hV (kX8_remember l X kS d r q (uI M 0 0) C (d 1) w (show 0 ≤ (M 3) ∧ (M 3) ≤ 8 by omega) (by omega)) (cwV 1 E.2.2.2.2 gX8_payAll_X8_remember rfl rfl rfl (by decide +kernel) ⟨Nat.le_of_ble_eq_true rfl, Nat.le_of_ble_eq_true rfl⟩) rfl rfl [0, 1, 2, 3, 4, 5, 6, 7, 8, 9, 10] rfl (by decide) hl.1 rfl rfl (Nat.le_of_ble_eq_true rfl) dX8_payAll_10 ⟨Nat.le_of_ble_eq_true rfl, Nat.le_of_ble_eq_true rfl⟩ (fun v w1 H locs hq hw => ?_)
  obtain ⟨rfl, rfl⟩ := hq
  have hw : lo_Wd X ([oX8 (d 0) 0 (d 1) (d 2) (min ((M 3) + 1) 8) (d 3) (M 5) (d 4) (d 5) (d 6) (M 9) (d 7) (M 11) (M 12) (M 13) (M 14) (M 15) (M 16) (M 17) (M 18) (M 19) (M 20) (M 21) (M 22) (M 23) (M 24) (M 25) (M 26) (M 27) (M 28), arI X (d 1) 122 w, arA X (d 2) 8 (rq r (rmQ q (M 3)))] ++ ((rwW X r (rmC C q (M 3) w)))) A9 s9.heap H locs := hw
  refine W.eq (g2 := F0 m9 13 ls []) rfl ?_
  refine lv_aload_n Ex Eb dX8_payAll_13 rfl (lv_at hl 0 rfl) ?_
  refine lo_callV (q0 := 0) (rest := []) E hK hw (kX8_payEach l X d (uI (uI M 0 0) 3 (min ((M 3) + 1) 8)) w (by omega)) (cwV 0 E.2.2.2.2 gX8_payAll_X8_payEach rfl rfl rfl (by decide +kernel) ⟨Nat.le_of_ble_eq_true rfl, Nat.le_of_ble_eq_true rfl⟩) rfl rfl [0, 1] rfl (by decide) hl.1 rfl rfl (Nat.le_of_ble_eq_true rfl) dX8_payAll_14 ⟨Nat.le_of_ble_eq_true rfl, Nat.le_of_ble_eq_true rfl⟩ (fun v w1 H locs hq hw => ?_)
  obtain ⟨N1, q14_0, rfl, rfl⟩ := hq
  have hw : lo_Wd X ([oX8 (d 0) (N1 0) (d 1) (d 2) (N1 3) (d 3) (N1 5) (d 4) (d 5) (d 6) (N1 9) (d 7) (N1 11) (N1 12) (N1 13) (N1 14) (N1 15) (N1 16) (N1 17) (N1 18) (N1 19) (N1 20) (N1 21) (N1 22) (N1 23) (N1 24) (N1 25) (N1 26) (N1 27) (N1 28), arI X (d 1) 122 (wAll w (w 0).toNat), arA X (d 2) 8 (rq r (rmQ q (M 3)))] ++ ((rwW X r (rmC C q (M 3) w)))) A9 s9.heap H locs := hw
  refine W.eq (g2 := F0 m9 17 ls [.int (iI (wSum w (w 0).toNat))]) rfl ?_
  exact lo_iret E hRt hLk hK hAe hw dX8_payAll_17 rfl ⟨N1, wAll w (w 0).toNat, rmQ q (M 3), rmC C q (M 3) w, wSum w (w 0).toNat, (fun k h0 h3 hk h8 => by first | (simp [uI, h0, h3, q14_0 k hk]; done) | (simp [uI, h0, h3]; done)), (by first | (exfalso; omega) | (exact ⟨(by first | (simp [uI, q14_0 0 (by omega)] <;> omega) | (omega)), by first | trivial | omega, rfl, rfl, (by first | (simp [uI, q14_0 3 (by omega)] <;> omega) | (omega)), rfl, rfl⟩)), rfl, rfl⟩
