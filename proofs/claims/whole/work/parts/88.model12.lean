set_option maxHeartbeats 4000000 in
set_option maxRecDepth 100000 in
theorem kX8_ends (l : Launch) (X : KX) (d : Nat → Nat) (M : Nat → Int) (x : Int) (he : i32 (M 24)) (hkd : i32 (M 22)) (hx : x = 0 ∨ x = 1) : CM l X yX8_ends wsX8_ends ({ frames := 1, cells := 0, slots := 0, locals := 21 }) [.ref (d 0), .int (iI x)] ([oX8 (d 0) (M 0) (d 1) (d 2) (M 3) (d 3) (M 5) (d 4) (d 5) (d 6) (M 9) (d 7) (M 11) (M 12) (M 13) (M 14) (M 15) (M 16) (M 17) (M 18) (M 19) (M 20) (M 21) (M 22) (M 23) (M 24) (M 25) (M 26) (M 27) (M 28)]) (fun v9 w9 => ∃ ek : Int, ∃ eo : Int, ∃ z : Int, ((M 24 ≠ 0 ∧ ek = M 24 ∧ eo = M 25 ∧ z = 0) ∨ (M 24 = 0 ∧ M 22 ≠ 1 ∧ ek = 1 ∧ eo = M 21 ∧ z = 0) ∨ (M 24 = 0 ∧ M 22 = 1 ∧ x = 0 ∧ ek = 3 ∧ eo = M 21 ∧ z = 0) ∨ (M 24 = 0 ∧ M 22 = 1 ∧ x = 1 ∧ ek = 0 ∧ eo = M 25 ∧ z = 1)) ∧ v9 = some (.int (iI z)) ∧ w9 = [oX8 (d 0) (M 0) (d 1) (d 2) (M 3) (d 3) (M 5) (d 4) (d 5) (d 6) (M 9) (d 7) (M 11) (M 12) (M 13) (M 14) (M 15) (M 16) (M 17) (M 18) (M 19) (M 20) (M 21) (M 22) (M 23) ek eo (M 26) (M 27) (M 28)]) 0 0 := by
  refine lo_enter (cc := cX8_ends) (maxL := 2) (ret := (some .boolean)) (lv := [(0, .ref (d 0)), (1, .int (iI x))]) (by decide) rfl rfl (Nat.le_of_ble_eq_true rfl) ?_
  intro p9 e9 s9 m9 bl9 me9 c9 A9 ls hAe E hRt hLk hK hl hw
  have Ex := E.1
  have Eb := E.2.1
  have huRX8 : ∀ w ∈ u_ws RX8 TX8 29, w ∈ wsX8_ends := by decide +kernel
  have hf205 : (Cond.fieldLink RX8 205 "LoanScheduleModel" "kind" "I").before _ s9 = true := E.2.2.2.2 _ (List.mem_of_getElem? (i := 1) rfl)
  refine lv_aload_n Ex Eb dX8_ends_0 rfl (lv_at hl 0 rfl) ?_
  refine lo_get E hK hw huRX8 22 hf205 rfl 0 rfl rfl (by decide) (v := .int (iI (M 22))) rfl dX8_ends_1 ?_
  refine lv_iconst (v := iI 1) Ex Eb dX8_ends_4 rfl ?_
  refine lo_icmp_eq (tgt := 13) E dX8_ends_5 (by decide) (by omega) (by omega) (fun c1 => ?_) (fun c1 => ?_)
  · skip
    refine lv_iload_n Ex Eb dX8_ends_13 rfl (lv_at hl 1 rfl) ?_
    refine lo_if_ne (tgt := 22) E dX8_ends_14 (by decide) (by omega) (fun c2 => ?_) (fun c2 => ?_)
    · skip
      refine lv_aload_n Ex Eb dX8_ends_22 rfl (lv_at hl 0 rfl) ?_
      refine lo_callV (q0 := 0) (rest := []) E hK hw (kX8_good l X d M (by first | omega | (rw [uI_n (by omega), uI_s]; omega))) (cwV 0 E.2.2.2.2 gX8_ends_X8_good rfl rfl rfl (by decide +kernel) ⟨Nat.le_of_ble_eq_true rfl, Nat.le_of_ble_eq_true rfl⟩) rfl rfl [0] rfl (by decide) hl.1 rfl rfl (Nat.le_of_ble_eq_true rfl) dX8_ends_23 ⟨Nat.le_of_ble_eq_true rfl, Nat.le_of_ble_eq_true rfl⟩ (fun v w1 H locs hq hw => ?_)
      obtain ⟨z3, q23_0, rfl, rfl⟩ := hq
      have hw : lo_Wd X ([oX8 (d 0) (M 0) (d 1) (d 2) (M 3) (d 3) (M 5) (d 4) (d 5) (d 6) (M 9) (d 7) (M 11) (M 12) (M 13) (M 14) (M 15) (M 16) (M 17) (M 18) (M 19) (M 20) (M 21) (M 22) (M 23) (M 24) (M 25) (M 26) (M 27) (M 28)]) A9 s9.heap H locs := hw
      refine W.eq (g2 := F0 m9 26 ls [.int (iI z3)]) rfl ?_
      exact lo_zret E hRt hLk hK hAe hw dX8_ends_26 (nar_b (by omega)) rfl ⟨M 24, M 25, z3, (by (try (rcases q10_0 with h10 | h10)) <;> (try (rcases q19_0 with h19 | h19)) <;> (rcases q23_0 with h23 | h23) <;> first | (exfalso; omega) | exact Or.inl ⟨by omega, by omega, by omega, by omega⟩ | exact Or.inr (Or.inl ⟨by omega, by omega, by omega, by omega, by omega⟩) | exact Or.inr (Or.inr (Or.inl ⟨by omega, by omega, by omega, by omega, by omega, by omega⟩)) | exact Or.inr (Or.inr (Or.inr ⟨by omega, by omega, by omega, by omega, by omega, by omega⟩))), rfl, rfl⟩
    · skip
      refine lv_aload_n Ex Eb dX8_ends_17 rfl (lv_at hl 0 rfl) ?_
      refine lv_iconst (v := iI 3) Ex Eb dX8_ends_18 rfl ?_
      refine lo_callV (q0 := 0) (rest := []) E hK hw (kX8_fail l X d M 3 (by first | omega | (rw [uI_n (by omega), uI_s]; omega))) (cwV 1 E.2.2.2.2 gX8_ends_X8_fail rfl rfl rfl (by decide +kernel) ⟨Nat.le_of_ble_eq_true rfl, Nat.le_of_ble_eq_true rfl⟩) rfl rfl [0] rfl (by decide) hl.1 rfl rfl (Nat.le_of_ble_eq_true rfl) dX8_ends_19 ⟨Nat.le_of_ble_eq_true rfl, Nat.le_of_ble_eq_true rfl⟩ (fun v w1 H locs hq hw => ?_)
      obtain ⟨k4, o5, q19_0, rfl, rfl⟩ := hq
      have hw : lo_Wd X ([oX8 (d 0) (M 0) (d 1) (d 2) (M 3) (d 3) (M 5) (d 4) (d 5) (d 6) (M 9) (d 7) (M 11) (M 12) (M 13) (M 14) (M 15) (M 16) (M 17) (M 18) (M 19) (M 20) (M 21) (M 22) (M 23) k4 o5 (M 26) (M 27) (M 28)]) A9 s9.heap H locs := hw
      refine W.eq (g2 := F0 m9 22 ls []) rfl ?_
      refine lv_aload_n Ex Eb dX8_ends_22 rfl (lv_at hl 0 rfl) ?_
      refine lo_callV (q0 := 0) (rest := []) E hK hw (kX8_good l X d (uI (uI M 24 k4) 25 o5) (by first | omega | (rw [uI_n (by omega), uI_s]; omega))) (cwV 0 E.2.2.2.2 gX8_ends_X8_good rfl rfl rfl (by decide +kernel) ⟨Nat.le_of_ble_eq_true rfl, Nat.le_of_ble_eq_true rfl⟩) rfl rfl [0] rfl (by decide) hl.1 rfl rfl (Nat.le_of_ble_eq_true rfl) dX8_ends_23 ⟨Nat.le_of_ble_eq_true rfl, Nat.le_of_ble_eq_true rfl⟩ (fun v w1 H locs hq hw => ?_)
      obtain ⟨z6, q23_0, rfl, rfl⟩ := hq
      change (z6 = 1 ∧ k4 = 0) ∨ (z6 = 0 ∧ k4 ≠ 0) at q23_0
      have hw : lo_Wd X ([oX8 (d 0) (M 0) (d 1) (d 2) (M 3) (d 3) (M 5) (d 4) (d 5) (d 6) (M 9) (d 7) (M 11) (M 12) (M 13) (M 14) (M 15) (M 16) (M 17) (M 18) (M 19) (M 20) (M 21) (M 22) (M 23) k4 o5 (M 26) (M 27) (M 28)]) A9 s9.heap H locs := hw
      refine W.eq (g2 := F0 m9 26 ls [.int (iI z6)]) rfl ?_
      exact lo_zret E hRt hLk hK hAe hw dX8_ends_26 (nar_b (by omega)) rfl ⟨k4, o5, z6, (by (try (rcases q10_0 with h10 | h10)) <;> (try (rcases q19_0 with h19 | h19)) <;> (rcases q23_0 with h23 | h23) <;> first | (exfalso; omega) | exact Or.inl ⟨by omega, by omega, by omega, by omega⟩ | exact Or.inr (Or.inl ⟨by omega, by omega, by omega, by omega, by omega⟩) | exact Or.inr (Or.inr (Or.inl ⟨by omega, by omega, by omega, by omega, by omega, by omega⟩)) | exact Or.inr (Or.inr (Or.inr ⟨by omega, by omega, by omega, by omega, by omega, by omega⟩))), rfl, rfl⟩
  · skip
    refine lv_aload_n Ex Eb dX8_ends_8 rfl (lv_at hl 0 rfl) ?_
    refine lv_iconst (v := iI 1) Ex Eb dX8_ends_9 rfl ?_
    refine lo_callV (q0 := 0) (rest := []) E hK hw (kX8_fail l X d M 1 (by first | omega | (rw [uI_n (by omega), uI_s]; omega))) (cwV 1 E.2.2.2.2 gX8_ends_X8_fail rfl rfl rfl (by decide +kernel) ⟨Nat.le_of_ble_eq_true rfl, Nat.le_of_ble_eq_true rfl⟩) rfl rfl [0] rfl (by decide) hl.1 rfl rfl (Nat.le_of_ble_eq_true rfl) dX8_ends_10 ⟨Nat.le_of_ble_eq_true rfl, Nat.le_of_ble_eq_true rfl⟩ (fun v w1 H locs hq hw => ?_)
    obtain ⟨k7, o8, q10_0, rfl, rfl⟩ := hq
    have hw : lo_Wd X ([oX8 (d 0) (M 0) (d 1) (d 2) (M 3) (d 3) (M 5) (d 4) (d 5) (d 6) (M 9) (d 7) (M 11) (M 12) (M 13) (M 14) (M 15) (M 16) (M 17) (M 18) (M 19) (M 20) (M 21) (M 22) (M 23) k7 o8 (M 26) (M 27) (M 28)]) A9 s9.heap H locs := hw
    refine W.eq (g2 := F0 m9 13 ls []) rfl ?_
    refine lv_iload_n Ex Eb dX8_ends_13 rfl (lv_at hl 1 rfl) ?_
    refine lo_if_ne (tgt := 22) E dX8_ends_14 (by decide) (by omega) (fun c10 => ?_) (fun c10 => ?_)
    · skip
      refine lv_aload_n Ex Eb dX8_ends_22 rfl (lv_at hl 0 rfl) ?_
      refine lo_callV (q0 := 0) (rest := []) E hK hw (kX8_good l X d (uI (uI M 24 k7) 25 o8) (by first | omega | (rw [uI_n (by omega), uI_s]; omega))) (cwV 0 E.2.2.2.2 gX8_ends_X8_good rfl rfl rfl (by decide +kernel) ⟨Nat.le_of_ble_eq_true rfl, Nat.le_of_ble_eq_true rfl⟩) rfl rfl [0] rfl (by decide) hl.1 rfl rfl (Nat.le_of_ble_eq_true rfl) dX8_ends_23 ⟨Nat.le_of_ble_eq_true rfl, Nat.le_of_ble_eq_true rfl⟩ (fun v w1 H locs hq hw => ?_)
      obtain ⟨z11, q23_0, rfl, rfl⟩ := hq
      change (z11 = 1 ∧ k7 = 0) ∨ (z11 = 0 ∧ k7 ≠ 0) at q23_0
      have hw : lo_Wd X ([oX8 (d 0) (M 0) (d 1) (d 2) (M 3) (d 3) (M 5) (d 4) (d 5) (d 6) (M 9) (d 7) (M 11) (M 12) (M 13) (M 14) (M 15) (M 16) (M 17) (M 18) (M 19) (M 20) (M 21) (M 22) (M 23) k7 o8 (M 26) (M 27) (M 28)]) A9 s9.heap H locs := hw
      refine W.eq (g2 := F0 m9 26 ls [.int (iI z11)]) rfl ?_
      exact lo_zret E hRt hLk hK hAe hw dX8_ends_26 (nar_b (by omega)) rfl ⟨k7, o8, z11, (by (try (rcases q10_0 with h10 | h10)) <;> (try (rcases q19_0 with h19 | h19)) <;> (rcases q23_0 with h23 | h23) <;> first | (exfalso; omega) | exact Or.inl ⟨by omega, by omega, by omega, by omega⟩ | exact Or.inr (Or.inl ⟨by omega, by omega, by omega, by omega, by omega⟩) | exact Or.inr (Or.inr (Or.inl ⟨by omega, by omega, by omega, by omega, by omega, by omega⟩)) | exact Or.inr (Or.inr (Or.inr ⟨by omega, by omega, by omega, by omega, by omega, by omega⟩))), rfl, rfl⟩
    · skip
      refine lv_aload_n Ex Eb dX8_ends_17 rfl (lv_at hl 0 rfl) ?_
      refine lv_iconst (v := iI 3) Ex Eb dX8_ends_18 rfl ?_
      refine lo_callV (q0 := 0) (rest := []) E hK hw (kX8_fail l X d (uI (uI M 24 k7) 25 o8) 3 (by first | omega | (rw [uI_n (by omega), uI_s]; omega))) (cwV 1 E.2.2.2.2 gX8_ends_X8_fail rfl rfl rfl (by decide +kernel) ⟨Nat.le_of_ble_eq_true rfl, Nat.le_of_ble_eq_true rfl⟩) rfl rfl [0] rfl (by decide) hl.1 rfl rfl (Nat.le_of_ble_eq_true rfl) dX8_ends_19 ⟨Nat.le_of_ble_eq_true rfl, Nat.le_of_ble_eq_true rfl⟩ (fun v w1 H locs hq hw => ?_)
      obtain ⟨k12, o13, q19_0, rfl, rfl⟩ := hq
      change (k7 = 0 ∧ k12 = 3 ∧ o13 = (M 21)) ∨ (k7 ≠ 0 ∧ k12 = k7 ∧ o13 = o8) at q19_0
      have hw : lo_Wd X ([oX8 (d 0) (M 0) (d 1) (d 2) (M 3) (d 3) (M 5) (d 4) (d 5) (d 6) (M 9) (d 7) (M 11) (M 12) (M 13) (M 14) (M 15) (M 16) (M 17) (M 18) (M 19) (M 20) (M 21) (M 22) (M 23) k12 o13 (M 26) (M 27) (M 28)]) A9 s9.heap H locs := hw
      refine W.eq (g2 := F0 m9 22 ls []) rfl ?_
      refine lv_aload_n Ex Eb dX8_ends_22 rfl (lv_at hl 0 rfl) ?_
      refine lo_callV (q0 := 0) (rest := []) E hK hw (kX8_good l X d (uI (uI M 24 k12) 25 o13) (by first | omega | (rw [uI_n (by omega), uI_s]; omega))) (cwV 0 E.2.2.2.2 gX8_ends_X8_good rfl rfl rfl (by decide +kernel) ⟨Nat.le_of_ble_eq_true rfl, Nat.le_of_ble_eq_true rfl⟩) rfl rfl [0] rfl (by decide) hl.1 rfl rfl (Nat.le_of_ble_eq_true rfl) dX8_ends_23 ⟨Nat.le_of_ble_eq_true rfl, Nat.le_of_ble_eq_true rfl⟩ (fun v w1 H locs hq hw => ?_)
      obtain ⟨z14, q23_0, rfl, rfl⟩ := hq
      change (z14 = 1 ∧ k12 = 0) ∨ (z14 = 0 ∧ k12 ≠ 0) at q23_0
      have hw : lo_Wd X ([oX8 (d 0) (M 0) (d 1) (d 2) (M 3) (d 3) (M 5) (d 4) (d 5) (d 6) (M 9) (d 7) (M 11) (M 12) (M 13) (M 14) (M 15) (M 16) (M 17) (M 18) (M 19) (M 20) (M 21) (M 22) (M 23) k12 o13 (M 26) (M 27) (M 28)]) A9 s9.heap H locs := hw
      refine W.eq (g2 := F0 m9 26 ls [.int (iI z14)]) rfl ?_
      exact lo_zret E hRt hLk hK hAe hw dX8_ends_26 (nar_b (by omega)) rfl ⟨k12, o13, z14, (by (try (rcases q10_0 with h10 | h10)) <;> (try (rcases q19_0 with h19 | h19)) <;> (rcases q23_0 with h23 | h23) <;> first | (exfalso; omega) | exact Or.inl ⟨by omega, by omega, by omega, by omega⟩ | exact Or.inr (Or.inl ⟨by omega, by omega, by omega, by omega, by omega⟩) | exact Or.inr (Or.inr (Or.inl ⟨by omega, by omega, by omega, by omega, by omega, by omega⟩)) | exact Or.inr (Or.inr (Or.inr ⟨by omega, by omega, by omega, by omega, by omega, by omega⟩))), rfl, rfl⟩
