set_option maxHeartbeats 4000000 in
set_option maxRecDepth 100000 in
theorem kX8_aLoan (l : Launch) (X : KX) (d : Nat → Nat) (M w T : Nat → Int) (ht : 0 ≤ M 9 ∧ M 9 ≤ 500) (hT : ∀ k : Nat, 0 ≤ T k ∧ T k ≤ 255) (ha : 0 ≤ M 20 ∧ M 20 ≤ M 9) (hg : 0 ≤ M 23 ∧ M 23 ≤ 9999999) (he : i32 (M 24)) (hkd : i32 (M 22)) (hw0 : 0 ≤ w 0 ∧ w 0 ≤ 6) : CM l X yX8_aLoan wsX8_aLoan ({ frames := 4, cells := 0, slots := 0, locals := 84 }) [.ref (d 0)] ([oX8 (d 0) (M 0) (d 1) (d 2) (M 3) (d 3) (M 5) (d 4) (d 5) (d 6) (M 9) (d 7) (M 11) (M 12) (M 13) (M 14) (M 15) (M 16) (M 17) (M 18) (M 19) (M 20) (M 21) (M 22) (M 23) (M 24) (M 25) (M 26) (M 27) (M 28), arI X (d 1) 122 w, arI X (d 6) 500 T]) (fun v9 w9 => ∃ nb : Int, ∃ na : Int, ∃ nk : Int, ∃ ng : Int, ∃ ek : Int, ∃ eo : Int, ∃ r : Int, ((M 24 = 0 ∧ (M 22 = 2 ∧ 0 ≤ M 23 ∧ M 23 ≤ w 0 - 1) ∧ ek = 0 ∧ eo = M 25 ∧ r = M 23 ∧ nb = spE pSp T (M 9) (M 20) ∧ SCN T (M 9) nb (M 23) na nk ng) ∨ (M 24 = 0 ∧ ((M 22 ≠ 2 ∧ ek = 1) ∨ (M 22 = 2 ∧ ¬ (0 ≤ M 23 ∧ M 23 ≤ w 0 - 1) ∧ ek = 2)) ∧ eo = M 21 ∧ r = 0 ∧ na = M 20 ∧ nb = M 21 ∧ nk = M 22 ∧ ng = M 23) ∨ (M 24 ≠ 0 ∧ ek = M 24 ∧ eo = M 25 ∧ r = 0 ∧ na = M 20 ∧ nb = M 21 ∧ nk = M 22 ∧ ng = M 23)) ∧ (0 ≤ na ∧ na ≤ M 9 ∧ 0 ≤ ng ∧ ng ≤ 9999999) ∧ v9 = some (.int (iI r)) ∧ w9 = [oX8 (d 0) (M 0) (d 1) (d 2) (M 3) (d 3) (M 5) (d 4) (d 5) (d 6) (M 9) (d 7) (M 11) (M 12) (M 13) (M 14) (M 15) (M 16) (M 17) (M 18) (M 19) na nb nk ng ek eo (M 26) (M 27) (M 28), arI X (d 1) 122 w, arI X (d 6) 500 T]) 0 0 := by
  refine lo_enter (cc := cX8_aLoan) (maxL := 1) (ret := (some .int)) (lv := [(0, .ref (d 0))]) (by decide) rfl rfl (Nat.le_of_ble_eq_true rfl) ?_
  intro p9 e9 s9 m9 bl9 me9 c9 A9 ls hAe E hRt hLk hK hl hw
  have Ex := E.1
  have Eb := E.2.1
  have huRX8 : ∀ w ∈ u_ws RX8 TX8 29, w ∈ wsX8_aLoan := by decide +kernel
  have hf9 : (Cond.fieldLink RX8 9 "LoanScheduleModel" "w" "[I").before _ s9 = true := E.2.2.2.2 _ (List.mem_of_getElem? (i := 1) rfl)
  refine lv_aload_n Ex Eb dX8_aLoan_0 rfl (lv_at hl 0 rfl) ?_
  refine lv_iconst (v := iI 0) Ex Eb dX8_aLoan_1 rfl ?_
  refine lv_aload_n Ex Eb dX8_aLoan_2 rfl (lv_at hl 0 rfl) ?_
  refine lo_get E hK hw huRX8 1 hf9 rfl 0 rfl rfl (by decide) (v := .ref (d 1)) rfl dX8_aLoan_3 ?_
  refine lv_iconst (v := iI 0) Ex Eb dX8_aLoan_6 rfl ?_
  refine lo_iald E hK hw 1 rfl (by omega) dX8_aLoan_7 ?_
  refine W.eq (g2 := F0 m9 8 ls [.int (iI (w 0)), .int (iI 0), .ref (d 0)]) rfl ?_
  refine lv_iconst (v := iI 1) Ex Eb dX8_aLoan_8 rfl ?_
  refine lo_isub E dX8_aLoan_9 ?_
  refine lo_callV (q0 := 0) (rest := []) E hK hw (kX8_number l X d M T 0 ((w 0) - 1) (ht) (hT) (ha) (hg) (he) (hkd) (by omega) (by omega)) (cwV 2 E.2.2.2.2 gX8_aLoan_X8_number rfl rfl rfl (by decide +kernel) ⟨Nat.le_of_ble_eq_true rfl, Nat.le_of_ble_eq_true rfl⟩) rfl rfl [0, 2] rfl (by decide) hl.1 rfl rfl (Nat.le_of_ble_eq_true rfl) dX8_aLoan_10 ⟨Nat.le_of_ble_eq_true rfl, Nat.le_of_ble_eq_true rfl⟩ (fun v w1 H locs hq hw => ?_)
  obtain ⟨nb1, na2, nk3, ng4, ek5, eo6, r7, q10_0, q10_1, rfl, rfl⟩ := hq
  have hw : lo_Wd X ([oX8 (d 0) (M 0) (d 1) (d 2) (M 3) (d 3) (M 5) (d 4) (d 5) (d 6) (M 9) (d 7) (M 11) (M 12) (M 13) (M 14) (M 15) (M 16) (M 17) (M 18) (M 19) na2 nb1 nk3 ng4 ek5 eo6 (M 26) (M 27) (M 28), arI X (d 1) 122 w, arI X (d 6) 500 T]) A9 s9.heap H locs := hw
  refine W.eq (g2 := F0 m9 13 ls [.int (iI r7)]) rfl ?_
  exact lo_iret E hRt hLk hK hAe hw dX8_aLoan_13 rfl ⟨nb1, na2, nk3, ng4, ek5, eo6, r7, (q10_0), (q10_1), rfl, rfl⟩
