set_option maxHeartbeats 4000000 in
set_option maxRecDepth 100000 in
theorem kX8_letterAt (l : Launch) (X : KX) (d : Nat → Nat) (M T : Nat → Int) (x : Int) (ht : 0 ≤ M 9 ∧ M 9 ≤ 500) (hT : ∀ k : Nat, 0 ≤ T k ∧ T k ≤ 255) (hx : 0 ≤ x ∧ x ≤ 500) : CM l X yX8_letterAt wsX8_letterAt ({ frames := 0, cells := 0, slots := 0, locals := 0 }) [.ref (d 0), .int (iI x)] ([oX8 (d 0) (M 0) (d 1) (d 2) (M 3) (d 3) (M 5) (d 4) (d 5) (d 6) (M 9) (d 7) (M 11) (M 12) (M 13) (M 14) (M 15) (M 16) (M 17) (M 18) (M 19) (M 20) (M 21) (M 22) (M 23) (M 24) (M 25) (M 26) (M 27) (M 28), arI X (d 6) 500 T]) (fun v9 w9 => ∃ z : Int, ((z = 1 ∧ x < M 9 ∧ 97 ≤ T x.toNat ∧ T x.toNat ≤ 122) ∨ (z = 0 ∧ ¬ (x < M 9 ∧ 97 ≤ T x.toNat ∧ T x.toNat ≤ 122))) ∧ v9 = some (.int (iI z)) ∧ w9 = [oX8 (d 0) (M 0) (d 1) (d 2) (M 3) (d 3) (M 5) (d 4) (d 5) (d 6) (M 9) (d 7) (M 11) (M 12) (M 13) (M 14) (M 15) (M 16) (M 17) (M 18) (M 19) (M 20) (M 21) (M 22) (M 23) (M 24) (M 25) (M 26) (M 27) (M 28), arI X (d 6) 500 T]) 0 0 := by
  refine lo_enter (cc := cX8_letterAt) (maxL := 2) (ret := (some .boolean)) (lv := [(0, .ref (d 0)), (1, .int (iI x))]) (by decide) rfl rfl (Nat.le_of_ble_eq_true rfl) ?_
  intro p9 e9 s9 m9 bl9 me9 c9 A9 ls hAe E hRt hLk hK hl hw
  have Ex := E.1
  have Eb := E.2.1
  have huRX8 : ∀ w ∈ u_ws RX8 TX8 29, w ∈ wsX8_letterAt := by decide +kernel
  have hf196 : (Cond.fieldLink RX8 196 "LoanScheduleModel" "typed" "I").before _ s9 = true := E.2.2.2.2 _ (List.mem_of_getElem? (i := 1) rfl)
  have hf27 : (Cond.fieldLink RX8 27 "LoanScheduleModel" "text" "[I").before _ s9 = true := E.2.2.2.2 _ (List.mem_of_getElem? (i := 2) rfl)
  have hTx := hT x.toNat
  refine lv_iload_n Ex Eb dX8_letterAt_0 rfl (lv_at hl 1 rfl) ?_
  refine lv_aload_n Ex Eb dX8_letterAt_1 rfl (lv_at hl 0 rfl) ?_
  refine lo_get E hK hw huRX8 9 hf196 rfl 0 rfl rfl (by decide) (v := .int (iI (M 9))) rfl dX8_letterAt_2 ?_
  refine lo_icmp_ge (tgt := 34) E dX8_letterAt_5 (by decide) (by omega) (by omega) (fun c1 => ?_) (fun c1 => ?_)
  · skip
    refine lv_iconst (v := iI 0) Ex Eb dX8_letterAt_34 rfl ?_
    exact lo_zret E hRt hLk hK hAe hw dX8_letterAt_35 rfl rfl ⟨0, (by omega), rfl, rfl⟩
  · skip
    refine lv_aload_n Ex Eb dX8_letterAt_8 rfl (lv_at hl 0 rfl) ?_
    refine lo_get E hK hw huRX8 8 hf27 rfl 0 rfl rfl (by decide) (v := .ref (d 6)) rfl dX8_letterAt_9 ?_
    refine lv_iload_n Ex Eb dX8_letterAt_12 rfl (lv_at hl 1 rfl) ?_
    refine lo_iald E hK hw 1 rfl (by omega) dX8_letterAt_13 ?_
    refine lv_bipush (v := iI 97) Ex Eb dX8_letterAt_14 rfl ?_
    refine lo_icmp_lt (tgt := 34) E dX8_letterAt_16 (by decide) (by omega) (by omega) (fun c2 => ?_) (fun c2 => ?_)
    · skip
      refine lv_iconst (v := iI 0) Ex Eb dX8_letterAt_34 rfl ?_
      exact lo_zret E hRt hLk hK hAe hw dX8_letterAt_35 rfl rfl ⟨0, (by omega), rfl, rfl⟩
    · skip
      refine lv_aload_n Ex Eb dX8_letterAt_19 rfl (lv_at hl 0 rfl) ?_
      refine lo_get E hK hw huRX8 8 hf27 rfl 0 rfl rfl (by decide) (v := .ref (d 6)) rfl dX8_letterAt_20 ?_
      refine lv_iload_n Ex Eb dX8_letterAt_23 rfl (lv_at hl 1 rfl) ?_
      refine lo_iald E hK hw 1 rfl (by omega) dX8_letterAt_24 ?_
      refine lv_bipush (v := iI 122) Ex Eb dX8_letterAt_25 rfl ?_
      refine lo_icmp_gt (tgt := 34) E dX8_letterAt_27 (by decide) (by omega) (by omega) (fun c3 => ?_) (fun c3 => ?_)
      · skip
        refine lv_iconst (v := iI 0) Ex Eb dX8_letterAt_34 rfl ?_
        exact lo_zret E hRt hLk hK hAe hw dX8_letterAt_35 rfl rfl ⟨0, (by omega), rfl, rfl⟩
      · skip
        refine lv_iconst (v := iI 1) Ex Eb dX8_letterAt_30 rfl ?_
        refine lv_goto (tgt := 35) Ex Eb dX8_letterAt_31 (by decide) ?_
        exact lo_zret E hRt hLk hK hAe hw dX8_letterAt_35 rfl rfl ⟨1, (by omega), rfl, rfl⟩
set_option maxHeartbeats 4000000 in
set_option maxRecDepth 100000 in
theorem kX8_digitAt (l : Launch) (X : KX) (d : Nat → Nat) (M T : Nat → Int) (x : Int) (ht : 0 ≤ M 9 ∧ M 9 ≤ 500) (hT : ∀ k : Nat, 0 ≤ T k ∧ T k ≤ 255) (hx : 0 ≤ x ∧ x ≤ 500) : CM l X yX8_digitAt wsX8_digitAt ({ frames := 0, cells := 0, slots := 0, locals := 0 }) [.ref (d 0), .int (iI x)] ([oX8 (d 0) (M 0) (d 1) (d 2) (M 3) (d 3) (M 5) (d 4) (d 5) (d 6) (M 9) (d 7) (M 11) (M 12) (M 13) (M 14) (M 15) (M 16) (M 17) (M 18) (M 19) (M 20) (M 21) (M 22) (M 23) (M 24) (M 25) (M 26) (M 27) (M 28), arI X (d 6) 500 T]) (fun v9 w9 => ∃ z : Int, ((z = 1 ∧ x < M 9 ∧ 48 ≤ T x.toNat ∧ T x.toNat ≤ 57) ∨ (z = 0 ∧ ¬ (x < M 9 ∧ 48 ≤ T x.toNat ∧ T x.toNat ≤ 57))) ∧ v9 = some (.int (iI z)) ∧ w9 = [oX8 (d 0) (M 0) (d 1) (d 2) (M 3) (d 3) (M 5) (d 4) (d 5) (d 6) (M 9) (d 7) (M 11) (M 12) (M 13) (M 14) (M 15) (M 16) (M 17) (M 18) (M 19) (M 20) (M 21) (M 22) (M 23) (M 24) (M 25) (M 26) (M 27) (M 28), arI X (d 6) 500 T]) 0 0 := by
  refine lo_enter (cc := cX8_digitAt) (maxL := 2) (ret := (some .boolean)) (lv := [(0, .ref (d 0)), (1, .int (iI x))]) (by decide) rfl rfl (Nat.le_of_ble_eq_true rfl) ?_
  intro p9 e9 s9 m9 bl9 me9 c9 A9 ls hAe E hRt hLk hK hl hw
  have Ex := E.1
  have Eb := E.2.1
  have huRX8 : ∀ w ∈ u_ws RX8 TX8 29, w ∈ wsX8_digitAt := by decide +kernel
  have hf196 : (Cond.fieldLink RX8 196 "LoanScheduleModel" "typed" "I").before _ s9 = true := E.2.2.2.2 _ (List.mem_of_getElem? (i := 1) rfl)
  have hf27 : (Cond.fieldLink RX8 27 "LoanScheduleModel" "text" "[I").before _ s9 = true := E.2.2.2.2 _ (List.mem_of_getElem? (i := 2) rfl)
  have hTx := hT x.toNat
  refine lv_iload_n Ex Eb dX8_digitAt_0 rfl (lv_at hl 1 rfl) ?_
  refine lv_aload_n Ex Eb dX8_digitAt_1 rfl (lv_at hl 0 rfl) ?_
  refine lo_get E hK hw huRX8 9 hf196 rfl 0 rfl rfl (by decide) (v := .int (iI (M 9))) rfl dX8_digitAt_2 ?_
  refine lo_icmp_ge (tgt := 34) E dX8_digitAt_5 (by decide) (by omega) (by omega) (fun c1 => ?_) (fun c1 => ?_)
  · skip
    refine lv_iconst (v := iI 0) Ex Eb dX8_digitAt_34 rfl ?_
    exact lo_zret E hRt hLk hK hAe hw dX8_digitAt_35 rfl rfl ⟨0, (by omega), rfl, rfl⟩
  · skip
    refine lv_aload_n Ex Eb dX8_digitAt_8 rfl (lv_at hl 0 rfl) ?_
    refine lo_get E hK hw huRX8 8 hf27 rfl 0 rfl rfl (by decide) (v := .ref (d 6)) rfl dX8_digitAt_9 ?_
    refine lv_iload_n Ex Eb dX8_digitAt_12 rfl (lv_at hl 1 rfl) ?_
    refine lo_iald E hK hw 1 rfl (by omega) dX8_digitAt_13 ?_
    refine lv_bipush (v := iI 48) Ex Eb dX8_digitAt_14 rfl ?_
    refine lo_icmp_lt (tgt := 34) E dX8_digitAt_16 (by decide) (by omega) (by omega) (fun c2 => ?_) (fun c2 => ?_)
    · skip
      refine lv_iconst (v := iI 0) Ex Eb dX8_digitAt_34 rfl ?_
      exact lo_zret E hRt hLk hK hAe hw dX8_digitAt_35 rfl rfl ⟨0, (by omega), rfl, rfl⟩
    · skip
      refine lv_aload_n Ex Eb dX8_digitAt_19 rfl (lv_at hl 0 rfl) ?_
      refine lo_get E hK hw huRX8 8 hf27 rfl 0 rfl rfl (by decide) (v := .ref (d 6)) rfl dX8_digitAt_20 ?_
      refine lv_iload_n Ex Eb dX8_digitAt_23 rfl (lv_at hl 1 rfl) ?_
      refine lo_iald E hK hw 1 rfl (by omega) dX8_digitAt_24 ?_
      refine lv_bipush (v := iI 57) Ex Eb dX8_digitAt_25 rfl ?_
      refine lo_icmp_gt (tgt := 34) E dX8_digitAt_27 (by decide) (by omega) (by omega) (fun c3 => ?_) (fun c3 => ?_)
      · skip
        refine lv_iconst (v := iI 0) Ex Eb dX8_digitAt_34 rfl ?_
        exact lo_zret E hRt hLk hK hAe hw dX8_digitAt_35 rfl rfl ⟨0, (by omega), rfl, rfl⟩
      · skip
        refine lv_iconst (v := iI 1) Ex Eb dX8_digitAt_30 rfl ?_
        refine lv_goto (tgt := 35) Ex Eb dX8_digitAt_31 (by decide) ?_
        exact lo_zret E hRt hLk hK hAe hw dX8_digitAt_35 rfl rfl ⟨1, (by omega), rfl, rfl⟩
set_option maxHeartbeats 4000000 in
set_option maxRecDepth 100000 in
theorem kX8_fail (l : Launch) (X : KX) (d : Nat → Nat) (M : Nat → Int) (c : Int) (he : i32 (M 24)) : CM l X yX8_fail wsX8_fail ({ frames := 0, cells := 0, slots := 0, locals := 0 }) [.ref (d 0), .int (iI c)] ([oX8 (d 0) (M 0) (d 1) (d 2) (M 3) (d 3) (M 5) (d 4) (d 5) (d 6) (M 9) (d 7) (M 11) (M 12) (M 13) (M 14) (M 15) (M 16) (M 17) (M 18) (M 19) (M 20) (M 21) (M 22) (M 23) (M 24) (M 25) (M 26) (M 27) (M 28)]) (fun v9 w9 => ∃ k : Int, ∃ o : Int, ((M 24 = 0 ∧ k = c ∧ o = M 21) ∨ (M 24 ≠ 0 ∧ k = M 24 ∧ o = M 25)) ∧ v9 = none ∧ w9 = [oX8 (d 0) (M 0) (d 1) (d 2) (M 3) (d 3) (M 5) (d 4) (d 5) (d 6) (M 9) (d 7) (M 11) (M 12) (M 13) (M 14) (M 15) (M 16) (M 17) (M 18) (M 19) (M 20) (M 21) (M 22) (M 23) k o (M 26) (M 27) (M 28)]) 0 0 := by
  refine lo_enter (cc := cX8_fail) (maxL := 2) (ret := none) (lv := [(0, .ref (d 0)), (1, .int (iI c))]) (by decide) rfl rfl (Nat.le_of_ble_eq_true rfl) ?_
  intro p9 e9 s9 m9 bl9 me9 c9 A9 ls hAe E hRt hLk hK hl hw
  have Ex := E.1
  have Eb := E.2.1
  have huRX8 : ∀ w ∈ u_ws RX8 TX8 29, w ∈ wsX8_fail := by decide +kernel
  have hf217 : (Cond.fieldLink RX8 217 "LoanScheduleModel" "errorKind" "I").before _ s9 = true := E.2.2.2.2 _ (List.mem_of_getElem? (i := 1) rfl)
  have hf202 : (Cond.fieldLink RX8 202 "LoanScheduleModel" "from" "I").before _ s9 = true := E.2.2.2.2 _ (List.mem_of_getElem? (i := 2) rfl)
  have hf229 : (Cond.fieldLink RX8 229 "LoanScheduleModel" "errorOffset" "I").before _ s9 = true := E.2.2.2.2 _ (List.mem_of_getElem? (i := 3) rfl)
  refine lv_aload_n Ex Eb dX8_fail_0 rfl (lv_at hl 0 rfl) ?_
  refine lo_get E hK hw huRX8 24 hf217 rfl 0 rfl rfl (by decide) (v := .int (iI (M 24))) rfl dX8_fail_1 ?_
  refine lo_if_ne (tgt := 20) E dX8_fail_4 (by decide) (by omega) (fun c1 => ?_) (fun c1 => ?_)
  · skip
    exact lo_vret E hRt hLk hK hAe hw dX8_fail_20 rfl ⟨M 24, M 25, (by omega), rfl, rfl⟩
  · skip
    refine lv_aload_n Ex Eb dX8_fail_7 rfl (lv_at hl 0 rfl) ?_
    refine lv_iload_n Ex Eb dX8_fail_8 rfl (lv_at hl 1 rfl) ?_
    refine lo_put E hK hw huRX8 tyX8 tyX8_ok nmX8 24 hf217 rfl 0 rfl rfl (by decide) rfl rfl rfl rfl (Nat.le_of_ble_eq_true rfl) (ws' := [oX8 (d 0) (M 0) (d 1) (d 2) (M 3) (d 3) (M 5) (d 4) (d 5) (d 6) (M 9) (d 7) (M 11) (M 12) (M 13) (M 14) (M 15) (M 16) (M 17) (M 18) (M 19) (M 20) (M 21) (M 22) (M 23) c (M 25) (M 26) (M 27) (M 28)]) rfl dX8_fail_9 (fun H locs hw => ?_)
    refine lv_aload_n Ex Eb dX8_fail_12 rfl (lv_at hl 0 rfl) ?_
    refine lv_aload_n Ex Eb dX8_fail_13 rfl (lv_at hl 0 rfl) ?_
    refine lo_get E hK hw huRX8 21 hf202 rfl 0 rfl rfl (by decide) (v := .int (iI (M 21))) rfl dX8_fail_14 ?_
    refine lo_put E hK hw huRX8 tyX8 tyX8_ok nmX8 25 hf229 rfl 0 rfl rfl (by decide) rfl rfl rfl rfl (Nat.le_of_ble_eq_true rfl) (ws' := [oX8 (d 0) (M 0) (d 1) (d 2) (M 3) (d 3) (M 5) (d 4) (d 5) (d 6) (M 9) (d 7) (M 11) (M 12) (M 13) (M 14) (M 15) (M 16) (M 17) (M 18) (M 19) (M 20) (M 21) (M 22) (M 23) c (M 21) (M 26) (M 27) (M 28)]) rfl dX8_fail_17 (fun H locs hw => ?_)
    exact lo_vret E hRt hLk hK hAe hw dX8_fail_20 rfl ⟨c, M 21, (by omega), rfl, rfl⟩
set_option maxHeartbeats 4000000 in
set_option maxRecDepth 100000 in
theorem kX8_good (l : Launch) (X : KX) (d : Nat → Nat) (M : Nat → Int) (he : i32 (M 24)) : CM l X yX8_good wsX8_good ({ frames := 0, cells := 0, slots := 0, locals := 0 }) [.ref (d 0)] ([oX8 (d 0) (M 0) (d 1) (d 2) (M 3) (d 3) (M 5) (d 4) (d 5) (d 6) (M 9) (d 7) (M 11) (M 12) (M 13) (M 14) (M 15) (M 16) (M 17) (M 18) (M 19) (M 20) (M 21) (M 22) (M 23) (M 24) (M 25) (M 26) (M 27) (M 28)]) (fun v9 w9 => ∃ z : Int, ((z = 1 ∧ M 24 = 0) ∨ (z = 0 ∧ M 24 ≠ 0)) ∧ v9 = some (.int (iI z)) ∧ w9 = [oX8 (d 0) (M 0) (d 1) (d 2) (M 3) (d 3) (M 5) (d 4) (d 5) (d 6) (M 9) (d 7) (M 11) (M 12) (M 13) (M 14) (M 15) (M 16) (M 17) (M 18) (M 19) (M 20) (M 21) (M 22) (M 23) (M 24) (M 25) (M 26) (M 27) (M 28)]) 0 0 := by
  refine lo_enter (cc := cX8_good) (maxL := 1) (ret := (some .boolean)) (lv := [(0, .ref (d 0))]) (by decide) rfl rfl (Nat.le_of_ble_eq_true rfl) ?_
  intro p9 e9 s9 m9 bl9 me9 c9 A9 ls hAe E hRt hLk hK hl hw
  have Ex := E.1
  have Eb := E.2.1
  have huRX8 : ∀ w ∈ u_ws RX8 TX8 29, w ∈ wsX8_good := by decide +kernel
  have hf217 : (Cond.fieldLink RX8 217 "LoanScheduleModel" "errorKind" "I").before _ s9 = true := E.2.2.2.2 _ (List.mem_of_getElem? (i := 1) rfl)
  refine lv_aload_n Ex Eb dX8_good_0 rfl (lv_at hl 0 rfl) ?_
  refine lo_get E hK hw huRX8 24 hf217 rfl 0 rfl rfl (by decide) (v := .int (iI (M 24))) rfl dX8_good_1 ?_
  refine lo_if_ne (tgt := 11) E dX8_good_4 (by decide) (by omega) (fun c1 => ?_) (fun c1 => ?_)
  · skip
    refine lv_iconst (v := iI 0) Ex Eb dX8_good_11 rfl ?_
    exact lo_zret E hRt hLk hK hAe hw dX8_good_12 rfl rfl ⟨0, (by omega), rfl, rfl⟩
  · skip
    refine lv_iconst (v := iI 1) Ex Eb dX8_good_7 rfl ?_
    refine lv_goto (tgt := 12) Ex Eb dX8_good_8 (by decide) ?_
    exact lo_zret E hRt hLk hK hAe hw dX8_good_12 rfl rfl ⟨1, (by omega), rfl, rfl⟩
set_option maxHeartbeats 4000000 in
set_option maxRecDepth 100000 in
theorem kX8_truncateInput (l : Launch) (X : KX) (d : Nat → Nat) (M : Nat → Int) (x : Int) (hx : i32 x) (ht : 0 ≤ M 9 ∧ M 9 ≤ 500) : CM l X yX8_truncateInput wsX8_truncateInput ({ frames := 1, cells := 0, slots := 0, locals := 24 }) [.ref (d 0), .int (iI x)] ([oX8 (d 0) (M 0) (d 1) (d 2) (M 3) (d 3) (M 5) (d 4) (d 5) (d 6) (M 9) (d 7) (M 11) (M 12) (M 13) (M 14) (M 15) (M 16) (M 17) (M 18) (M 19) (M 20) (M 21) (M 22) (M 23) (M 24) (M 25) (M 26) (M 27) (M 28)]) (fun v9 w9 => ∃ t : Int, ∃ n : Int, ∃ r : Int, ((t = 0 ∧ 0 ≤ x ∧ x ≤ M 9 ∧ n = x ∧ r = x) ∨ (t = 1 ∧ ¬ (0 ≤ x ∧ x ≤ M 9) ∧ n = M 9 ∧ r = 0)) ∧ v9 = some (.int (iI r)) ∧ w9 = [oX8 (d 0) t (d 1) (d 2) (M 3) (d 3) (M 5) (d 4) (d 5) (d 6) n (d 7) (M 11) (M 12) (M 13) (M 14) (M 15) (M 16) (M 17) (M 18) (M 19) (M 20) (M 21) (M 22) (M 23) (M 24) (M 25) (M 26) (M 27) (M 28)]) 0 0 := by
  refine lo_enter (cc := cX8_truncateInput) (maxL := 2) (ret := (some .int)) (lv := [(0, .ref (d 0)), (1, .int (iI x))]) (by decide) rfl rfl (Nat.le_of_ble_eq_true rfl) ?_
  intro p9 e9 s9 m9 bl9 me9 c9 A9 ls hAe E hRt hLk hK hl hw
  have Ex := E.1
  have Eb := E.2.1
  have huRX8 : ∀ w ∈ u_ws RX8 TX8 29, w ∈ wsX8_truncateInput := by decide +kernel
  have hf56 : (Cond.fieldLink RX8 56 "LoanScheduleModel" "thrown" "I").before _ s9 = true := E.2.2.2.2 _ (List.mem_of_getElem? (i := 1) rfl)
  have hf196 : (Cond.fieldLink RX8 196 "LoanScheduleModel" "typed" "I").before _ s9 = true := E.2.2.2.2 _ (List.mem_of_getElem? (i := 2) rfl)
  refine lv_aload_n Ex Eb dX8_truncateInput_0 rfl (lv_at hl 0 rfl) ?_
  refine lv_iconst (v := iI 0) Ex Eb dX8_truncateInput_1 rfl ?_
  refine lo_put E hK hw huRX8 tyX8 tyX8_ok nmX8 0 hf56 rfl 0 rfl rfl (by decide) rfl rfl rfl rfl (Nat.le_of_ble_eq_true rfl) (ws' := [oX8 (d 0) 0 (d 1) (d 2) (M 3) (d 3) (M 5) (d 4) (d 5) (d 6) (M 9) (d 7) (M 11) (M 12) (M 13) (M 14) (M 15) (M 16) (M 17) (M 18) (M 19) (M 20) (M 21) (M 22) (M 23) (M 24) (M 25) (M 26) (M 27) (M 28)]) rfl dX8_truncateInput_2 (fun H locs hw => ?_)
  refine lv_aload_n Ex Eb dX8_truncateInput_5 rfl (lv_at hl 0 rfl) ?_
  refine lv_iload_n Ex Eb dX8_truncateInput_6 rfl (lv_at hl 1 rfl) ?_
  refine lv_iconst (v := iI 0) Ex Eb dX8_truncateInput_7 rfl ?_
  refine lv_aload_n Ex Eb dX8_truncateInput_8 rfl (lv_at hl 0 rfl) ?_
  refine lo_get E hK hw huRX8 9 hf196 rfl 0 rfl rfl (by decide) (v := .int (iI (M 9))) rfl dX8_truncateInput_9 ?_
  refine lv_iconst (v := iI 1) Ex Eb dX8_truncateInput_12 rfl ?_
  refine lo_callV (q0 := 0) (rest := []) E hK hw (kX8_outside l X d (uI M 0 0) x 0 (M 9) 1 (by omega) (by omega) (by omega)) (cwV 4 E.2.2.2.2 gX8_truncateInput_X8_outside rfl rfl rfl (by decide +kernel) ⟨Nat.le_of_ble_eq_true rfl, Nat.le_of_ble_eq_true rfl⟩) rfl rfl [0] rfl (by decide) hl.1 rfl rfl (Nat.le_of_ble_eq_true rfl) dX8_truncateInput_13 ⟨Nat.le_of_ble_eq_true rfl, Nat.le_of_ble_eq_true rfl⟩ (fun v w1 H locs hq hw => ?_)
  obtain ⟨z1, t2, q13_0, rfl, rfl⟩ := hq
  change (z1 = 0 ∧ t2 = 0 ∧ 0 ≤ x ∧ x ≤ (M 9)) ∨ (z1 = 1 ∧ t2 = 1 ∧ ¬ (0 ≤ x ∧ x ≤ (M 9))) at q13_0
  have hw : lo_Wd X ([oX8 (d 0) t2 (d 1) (d 2) (M 3) (d 3) (M 5) (d 4) (d 5) (d 6) (M 9) (d 7) (M 11) (M 12) (M 13) (M 14) (M 15) (M 16) (M 17) (M 18) (M 19) (M 20) (M 21) (M 22) (M 23) (M 24) (M 25) (M 26) (M 27) (M 28)]) A9 s9.heap H locs := hw
  refine W.eq (g2 := F0 m9 16 ls [.int (iI z1)]) rfl ?_
  refine lo_if_eq (tgt := 21) E dX8_truncateInput_16 (by decide) (by omega) (fun c3 => ?_) (fun c3 => ?_)
  · skip
    refine lv_aload_n Ex Eb dX8_truncateInput_21 rfl (lv_at hl 0 rfl) ?_
    refine lv_iload_n Ex Eb dX8_truncateInput_22 rfl (lv_at hl 1 rfl) ?_
    refine lo_put E hK hw huRX8 tyX8 tyX8_ok nmX8 9 hf196 rfl 0 rfl rfl (by decide) rfl rfl rfl rfl (Nat.le_of_ble_eq_true rfl) (ws' := [oX8 (d 0) t2 (d 1) (d 2) (M 3) (d 3) (M 5) (d 4) (d 5) (d 6) x (d 7) (M 11) (M 12) (M 13) (M 14) (M 15) (M 16) (M 17) (M 18) (M 19) (M 20) (M 21) (M 22) (M 23) (M 24) (M 25) (M 26) (M 27) (M 28)]) rfl dX8_truncateInput_23 (fun H locs hw => ?_)
    refine lv_aload_n Ex Eb dX8_truncateInput_26 rfl (lv_at hl 0 rfl) ?_
    refine lo_get E hK hw huRX8 9 hf196 rfl 0 rfl rfl (by decide) (v := .int (iI x)) rfl dX8_truncateInput_27 ?_
    exact lo_iret E hRt hLk hK hAe hw dX8_truncateInput_30 rfl ⟨t2, x, x, (by omega), rfl, rfl⟩
  · skip
    refine lv_iconst (v := iI 0) Ex Eb dX8_truncateInput_19 rfl ?_
    exact lo_iret E hRt hLk hK hAe hw dX8_truncateInput_20 rfl ⟨t2, M 9, 0, (by omega), rfl, rfl⟩
set_option maxHeartbeats 4000000 in
set_option maxRecDepth 100000 in
theorem kX8_saveSnapshot (l : Launch) (X : KX) (d : Nat → Nat) (M w g : Nat → Int) : CM l X yX8_saveSnapshot wsX8_saveSnapshot ({ frames := 1, cells := 0, slots := 0, locals := 22 }) [.ref (d 0)] ([oX8 (d 0) (M 0) (d 1) (d 2) (M 3) (d 3) (M 5) (d 4) (d 5) (d 6) (M 9) (d 7) (M 11) (M 12) (M 13) (M 14) (M 15) (M 16) (M 17) (M 18) (M 19) (M 20) (M 21) (M 22) (M 23) (M 24) (M 25) (M 26) (M 27) (M 28), arI X (d 1) 122 w, arI X (d 3) 122 g]) (fun v9 w9 => v9 = some (.int (iI (w 0))) ∧ w9 = [oX8 (d 0) 0 (d 1) (d 2) (M 3) (d 3) 1 (d 4) (d 5) (d 6) (M 9) (d 7) (M 11) (M 12) (M 13) (M 14) (M 15) (M 16) (M 17) (M 18) (M 19) (M 20) (M 21) (M 22) (M 23) (M 24) (M 25) (M 26) (M 27) (M 28), arI X (d 1) 122 w, arI X (d 3) 122 w]) 0 0 := by
  refine lo_enter (cc := cX8_saveSnapshot) (maxL := 1) (ret := (some .int)) (lv := [(0, .ref (d 0))]) (by decide) rfl rfl (Nat.le_of_ble_eq_true rfl) ?_
  intro p9 e9 s9 m9 bl9 me9 c9 A9 ls hAe E hRt hLk hK hl hw
  have Ex := E.1
  have Eb := E.2.1
  have huRX8 : ∀ w ∈ u_ws RX8 TX8 29, w ∈ wsX8_saveSnapshot := by decide +kernel
  have hf56 : (Cond.fieldLink RX8 56 "LoanScheduleModel" "thrown" "I").before _ s9 = true := E.2.2.2.2 _ (List.mem_of_getElem? (i := 1) rfl)
  have hf9 : (Cond.fieldLink RX8 9 "LoanScheduleModel" "w" "[I").before _ s9 = true := E.2.2.2.2 _ (List.mem_of_getElem? (i := 2) rfl)
  have hf18 : (Cond.fieldLink RX8 18 "LoanScheduleModel" "snapshot" "[I").before _ s9 = true := E.2.2.2.2 _ (List.mem_of_getElem? (i := 3) rfl)
  have hf192 : (Cond.fieldLink RX8 192 "LoanScheduleModel" "hasSnapshot" "Z").before _ s9 = true := E.2.2.2.2 _ (List.mem_of_getElem? (i := 4) rfl)
  refine lv_aload_n Ex Eb dX8_saveSnapshot_0 rfl (lv_at hl 0 rfl) ?_
  refine lv_iconst (v := iI 0) Ex Eb dX8_saveSnapshot_1 rfl ?_
  refine lo_put E hK hw huRX8 tyX8 tyX8_ok nmX8 0 hf56 rfl 0 rfl rfl (by decide) rfl rfl rfl rfl (Nat.le_of_ble_eq_true rfl) (ws' := [oX8 (d 0) 0 (d 1) (d 2) (M 3) (d 3) (M 5) (d 4) (d 5) (d 6) (M 9) (d 7) (M 11) (M 12) (M 13) (M 14) (M 15) (M 16) (M 17) (M 18) (M 19) (M 20) (M 21) (M 22) (M 23) (M 24) (M 25) (M 26) (M 27) (M 28), arI X (d 1) 122 w, arI X (d 3) 122 g]) rfl dX8_saveSnapshot_2 (fun H locs hw => ?_)
  refine lv_aload_n Ex Eb dX8_saveSnapshot_5 rfl (lv_at hl 0 rfl) ?_
  refine lo_get E hK hw huRX8 1 hf9 rfl 0 rfl rfl (by decide) (v := .ref (d 1)) rfl dX8_saveSnapshot_6 ?_
  refine lv_aload_n Ex Eb dX8_saveSnapshot_9 rfl (lv_at hl 0 rfl) ?_
  refine lo_get E hK hw huRX8 4 hf18 rfl 0 rfl rfl (by decide) (v := .ref (d 3)) rfl dX8_saveSnapshot_10 ?_
  refine lo_callS (rest := []) E hK hw (kX8_copy l X (d 1) (d 3) w g ) (cwS 2 E.2.2.2.2 gX8_saveSnapshot_X8_copy rfl rfl rfl (by decide +kernel) ⟨Nat.le_of_ble_eq_true rfl, Nat.le_of_ble_eq_true rfl⟩) [1, 2] rfl (by decide) hl.1 rfl rfl (Nat.le_of_ble_eq_true rfl) dX8_saveSnapshot_13 ⟨Nat.le_of_ble_eq_true rfl, Nat.le_of_ble_eq_true rfl⟩ (fun v w1 H locs hq hw => ?_)
  obtain ⟨rfl, rfl⟩ := hq
  have hw : lo_Wd X ([oX8 (d 0) 0 (d 1) (d 2) (M 3) (d 3) (M 5) (d 4) (d 5) (d 6) (M 9) (d 7) (M 11) (M 12) (M 13) (M 14) (M 15) (M 16) (M 17) (M 18) (M 19) (M 20) (M 21) (M 22) (M 23) (M 24) (M 25) (M 26) (M 27) (M 28), arI X (d 1) 122 w, arI X (d 3) 122 w]) A9 s9.heap H locs := hw
  refine W.eq (g2 := F0 m9 16 ls []) rfl ?_
  refine lv_aload_n Ex Eb dX8_saveSnapshot_16 rfl (lv_at hl 0 rfl) ?_
  refine lv_iconst (v := iI 1) Ex Eb dX8_saveSnapshot_17 rfl ?_
  refine lo_put E hK hw huRX8 tyX8 tyX8_ok nmX8 5 hf192 rfl 0 rfl rfl (by decide) rfl rfl rfl rfl (Nat.le_of_ble_eq_true rfl) (ws' := [oX8 (d 0) 0 (d 1) (d 2) (M 3) (d 3) 1 (d 4) (d 5) (d 6) (M 9) (d 7) (M 11) (M 12) (M 13) (M 14) (M 15) (M 16) (M 17) (M 18) (M 19) (M 20) (M 21) (M 22) (M 23) (M 24) (M 25) (M 26) (M 27) (M 28), arI X (d 1) 122 w, arI X (d 3) 122 w]) rfl dX8_saveSnapshot_18 (fun H locs hw => ?_)
  refine lv_aload_n Ex Eb dX8_saveSnapshot_21 rfl (lv_at hl 0 rfl) ?_
  refine lo_get E hK hw huRX8 1 hf9 rfl 0 rfl rfl (by decide) (v := .ref (d 1)) rfl dX8_saveSnapshot_22 ?_
  refine lv_iconst (v := iI 0) Ex Eb dX8_saveSnapshot_25 rfl ?_
  refine lo_iald E hK hw 1 rfl (by omega) dX8_saveSnapshot_26 ?_
  refine W.eq (g2 := F0 m9 27 ls [.int (iI (w 0))]) rfl ?_
  exact lo_iret E hRt hLk hK hAe hw dX8_saveSnapshot_27 rfl ⟨rfl, rfl⟩
