set_option maxHeartbeats 4000000 in
set_option maxRecDepth 100000 in
theorem kX8_say (l : Launch) (X : KX) (d : Nat → Nat) (M B : Nat → Int) (k : Int) (hrs : 0 ≤ M 11 ∧ M 11 < 300) (hk : 0 ≤ k ∧ k ≤ 127) : CM l X yX8_say wsX8_say ({ frames := 0, cells := 0, slots := 0, locals := 0 }) [.ref (d 0), .int (iI k)] ([oX8 (d 0) (M 0) (d 1) (d 2) (M 3) (d 3) (M 5) (d 4) (d 5) (d 6) (M 9) (d 7) (M 11) (M 12) (M 13) (M 14) (M 15) (M 16) (M 17) (M 18) (M 19) (M 20) (M 21) (M 22) (M 23) (M 24) (M 25) (M 26) (M 27) (M 28), arB X (d 7) 300 B]) (fun v9 w9 => v9 = none ∧ w9 = [oX8 (d 0) (M 0) (d 1) (d 2) (M 3) (d 3) (M 5) (d 4) (d 5) (d 6) (M 9) (d 7) (M 11 + 1) (M 12) (M 13) (M 14) (M 15) (M 16) (M 17) (M 18) (M 19) (M 20) (M 21) (M 22) (M 23) (M 24) (M 25) (M 26) (M 27) (M 28), arB X (d 7) 300 (uI B (M 11).toNat k)]) 0 0 := by
  refine lo_enter (cc := cX8_say) (maxL := 2) (ret := none) (lv := [(0, .ref (d 0)), (1, .int (iI k))]) (by decide) rfl rfl (Nat.le_of_ble_eq_true rfl) ?_
  intro p9 e9 s9 m9 bl9 me9 c9 A9 ls hAe E hRt hLk hK hl hw
  have Ex := E.1
  have Eb := E.2.1
  have huRX8 : ∀ w ∈ u_ws RX8 TX8 29, w ∈ wsX8_say := by decide +kernel
  have hf30 : (Cond.fieldLink RX8 30 "LoanScheduleModel" "report" "[B").before _ s9 = true := E.2.2.2.2 _ (List.mem_of_getElem? (i := 1) rfl)
  have hf357 : (Cond.fieldLink RX8 357 "LoanScheduleModel" "reported" "I").before _ s9 = true := E.2.2.2.2 _ (List.mem_of_getElem? (i := 2) rfl)
  refine lv_aload_n Ex Eb dX8_say_0 rfl (lv_at hl 0 rfl) ?_
  refine lo_get E hK hw huRX8 10 hf30 rfl 0 rfl rfl (by decide) (v := .ref (d 7)) rfl dX8_say_1 ?_
  refine lv_aload_n Ex Eb dX8_say_4 rfl (lv_at hl 0 rfl) ?_
  refine lo_get E hK hw huRX8 11 hf357 rfl 0 rfl rfl (by decide) (v := .int (iI (M 11))) rfl dX8_say_5 ?_
  refine lv_iload_n Ex Eb dX8_say_8 rfl (lv_at hl 1 rfl) ?_
  refine lo_i2b E dX8_say_9 ?_
  refine lo_bast E hK hw 1 rfl (by omega) (bI_r _) (ws' := [oX8 (d 0) (M 0) (d 1) (d 2) (M 3) (d 3) (M 5) (d 4) (d 5) (d 6) (M 9) (d 7) (M 11) (M 12) (M 13) (M 14) (M 15) (M 16) (M 17) (M 18) (M 19) (M 20) (M 21) (M 22) (M 23) (M 24) (M 25) (M 26) (M 27) (M 28), arB X (d 7) 300 (uI B (M 11).toNat (bI k))]) rfl dX8_say_10 (fun H locs hw => ?_)
  refine lv_aload_n Ex Eb dX8_say_11 rfl (lv_at hl 0 rfl) ?_
  refine lv_dup Ex Eb dX8_say_12 rfl ?_
  refine lo_get E hK hw huRX8 11 hf357 rfl 0 rfl rfl (by decide) (v := .int (iI (M 11))) rfl dX8_say_13 ?_
  refine lv_iconst (v := iI 1) Ex Eb dX8_say_16 rfl ?_
  refine lo_iadd E dX8_say_17 ?_
  refine lo_put E hK hw huRX8 tyX8 tyX8_ok nmX8 11 hf357 rfl 0 rfl rfl (by decide) rfl rfl rfl rfl (Nat.le_of_ble_eq_true rfl) (ws' := [oX8 (d 0) (M 0) (d 1) (d 2) (M 3) (d 3) (M 5) (d 4) (d 5) (d 6) (M 9) (d 7) (M 11 + 1) (M 12) (M 13) (M 14) (M 15) (M 16) (M 17) (M 18) (M 19) (M 20) (M 21) (M 22) (M 23) (M 24) (M 25) (M 26) (M 27) (M 28), arB X (d 7) 300 (uI B (M 11).toNat (bI k))]) rfl dX8_say_18 (fun H locs hw => ?_)
  exact lo_vret E hRt hLk hK hAe hw dX8_say_21 rfl ⟨rfl, by rw [bI_id (show -128 ≤ k ∧ k ≤ 127 by omega)]; try rfl⟩
set_option maxHeartbeats 4000000 in
set_option maxRecDepth 100000 in
theorem kX8_reportByte (l : Launch) (X : KX) (d : Nat → Nat) (M B : Nat → Int) (k : Int) (hk9 : i32 k) (hrs : 0 ≤ M 11 ∧ M 11 ≤ 300) : CM l X yX8_reportByte wsX8_reportByte ({ frames := 0, cells := 0, slots := 0, locals := 0 }) [.ref (d 0), .int (iI k)] ([oX8 (d 0) (M 0) (d 1) (d 2) (M 3) (d 3) (M 5) (d 4) (d 5) (d 6) (M 9) (d 7) (M 11) (M 12) (M 13) (M 14) (M 15) (M 16) (M 17) (M 18) (M 19) (M 20) (M 21) (M 22) (M 23) (M 24) (M 25) (M 26) (M 27) (M 28), arB X (d 7) 300 B]) (fun v9 w9 => ∃ z : Int, ((0 ≤ k ∧ k < M 11 ∧ z = B k.toNat) ∨ (¬ (0 ≤ k ∧ k < M 11) ∧ z = -1)) ∧ v9 = some (.int (iI z)) ∧ w9 = [oX8 (d 0) 0 (d 1) (d 2) (M 3) (d 3) (M 5) (d 4) (d 5) (d 6) (M 9) (d 7) (M 11) (M 12) (M 13) (M 14) (M 15) (M 16) (M 17) (M 18) (M 19) (M 20) (M 21) (M 22) (M 23) (M 24) (M 25) (M 26) (M 27) (M 28), arB X (d 7) 300 B]) 0 0 := by
  refine lo_enter (cc := cX8_reportByte) (maxL := 2) (ret := (some .int)) (lv := [(0, .ref (d 0)), (1, .int (iI k))]) (by decide) rfl rfl (Nat.le_of_ble_eq_true rfl) ?_
  intro p9 e9 s9 m9 bl9 me9 c9 A9 ls hAe E hRt hLk hK hl hw
  have Ex := E.1
  have Eb := E.2.1
  have huRX8 : ∀ w ∈ u_ws RX8 TX8 29, w ∈ wsX8_reportByte := by decide +kernel
  have hf56 : (Cond.fieldLink RX8 56 "LoanScheduleModel" "thrown" "I").before _ s9 = true := E.2.2.2.2 _ (List.mem_of_getElem? (i := 1) rfl)
  have hf357 : (Cond.fieldLink RX8 357 "LoanScheduleModel" "reported" "I").before _ s9 = true := E.2.2.2.2 _ (List.mem_of_getElem? (i := 2) rfl)
  have hf30 : (Cond.fieldLink RX8 30 "LoanScheduleModel" "report" "[B").before _ s9 = true := E.2.2.2.2 _ (List.mem_of_getElem? (i := 3) rfl)
  refine lv_aload_n Ex Eb dX8_reportByte_0 rfl (lv_at hl 0 rfl) ?_
  refine lv_iconst (v := iI 0) Ex Eb dX8_reportByte_1 rfl ?_
  refine lo_put E hK hw huRX8 tyX8 tyX8_ok nmX8 0 hf56 rfl 0 rfl rfl (by decide) rfl rfl rfl rfl (Nat.le_of_ble_eq_true rfl) (ws' := [oX8 (d 0) 0 (d 1) (d 2) (M 3) (d 3) (M 5) (d 4) (d 5) (d 6) (M 9) (d 7) (M 11) (M 12) (M 13) (M 14) (M 15) (M 16) (M 17) (M 18) (M 19) (M 20) (M 21) (M 22) (M 23) (M 24) (M 25) (M 26) (M 27) (M 28), arB X (d 7) 300 B]) rfl dX8_reportByte_2 (fun H locs hw => ?_)
  refine lv_iload_n Ex Eb dX8_reportByte_5 rfl (lv_at hl 1 rfl) ?_
  refine lo_if_lt (tgt := 17) E dX8_reportByte_6 (by decide) (by omega) (fun c1 => ?_) (fun c1 => ?_)
  · skip
    refine lv_iconst (v := iI (-1)) Ex Eb dX8_reportByte_17 rfl ?_
    refine lv_goto (tgt := 27) Ex Eb dX8_reportByte_18 (by decide) ?_
    exact lo_iret E hRt hLk hK hAe hw dX8_reportByte_27 rfl ⟨-1, (by first | exact Or.inl ⟨by omega, by omega, rfl⟩ | exact Or.inr ⟨by omega, rfl⟩), rfl, rfl⟩
  · skip
    refine lv_iload_n Ex Eb dX8_reportByte_9 rfl (lv_at hl 1 rfl) ?_
    refine lv_aload_n Ex Eb dX8_reportByte_10 rfl (lv_at hl 0 rfl) ?_
    refine lo_get E hK hw huRX8 11 hf357 rfl 0 rfl rfl (by decide) (v := .int (iI (M 11))) rfl dX8_reportByte_11 ?_
    refine lo_icmp_lt (tgt := 21) E dX8_reportByte_14 (by decide) (by omega) (by omega) (fun c2 => ?_) (fun c2 => ?_)
    · skip
      refine lv_aload_n Ex Eb dX8_reportByte_21 rfl (lv_at hl 0 rfl) ?_
      refine lo_get E hK hw huRX8 10 hf30 rfl 0 rfl rfl (by decide) (v := .ref (d 7)) rfl dX8_reportByte_22 ?_
      refine lv_iload_n Ex Eb dX8_reportByte_25 rfl (lv_at hl 1 rfl) ?_
      refine lo_bald E hK hw 1 rfl (by omega) dX8_reportByte_26 ?_
      exact lo_iret E hRt hLk hK hAe hw dX8_reportByte_27 rfl ⟨B k.toNat, (by first | exact Or.inl ⟨by omega, by omega, rfl⟩ | exact Or.inr ⟨by omega, rfl⟩), rfl, rfl⟩
    · skip
      refine lv_iconst (v := iI (-1)) Ex Eb dX8_reportByte_17 rfl ?_
      refine lv_goto (tgt := 27) Ex Eb dX8_reportByte_18 (by decide) ?_
      exact lo_iret E hRt hLk hK hAe hw dX8_reportByte_27 rfl ⟨-1, (by first | exact Or.inl ⟨by omega, by omega, rfl⟩ | exact Or.inr ⟨by omega, rfl⟩), rfl, rfl⟩
