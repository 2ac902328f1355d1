set_option maxHeartbeats 4000000 in
set_option maxRecDepth 100000 in
theorem kX2_init (l : Launch) (X : KX) (kS : Nat → Nat) (h : Nat) : CI l X kS yX2_init wsX2_init ({ frames := 1, cells := 0, slots := 0, locals := 60 }) [.ref h] h ((oX2 h 0 0 0 0 0 0 0 0 0 0).2) (fun e8 nw8 => e8 = (oX2 h 0 0 0 0 0 0 0 0 0 0).2 ∧ nw8 = []) 0 0 := by
  refine lo_enterI (cc := cX2_init) (maxL := 1) (ret := none) (lv := [(0, .ref h)]) (by decide) rfl rfl (Nat.le_of_ble_eq_true rfl) ?_
  intro p9 e9 s9 m9 bl9 me9 c9 A9 ls hAe E hRt hLk hK hl hw hV hin9
  have Ex := E.1
  have Eb := E.2.1
  have hol : (Cond.methodLink RX2 3 objectInit).before _ s9 = true := E.2.2.2.2 _ (List.mem_of_getElem? (i := 1) rfl)
  have hoi : (Cond.instanceMethod objectInit).before _ s9 = true := E.2.2.2.2 _ (List.mem_of_getElem? (i := 2) rfl)
  have hoc : (Cond.code objectInit ⟨#[0xb1]⟩ 1 none).before _ s9 = true := E.2.2.2.2 _ (List.mem_of_getElem? (i := 3) rfl)
  refine lv_aload_n Ex Eb dX2_init_0 rfl (lv_at hl 0 rfl) ?_
  refine lo_obj E hl.1 hol hoi hoc dX2_init_1 (Nat.le_of_ble_eq_true rfl) (Nat.le_of_ble_eq_true rfl) ?_
  exact lo_vretI E hRt hLk hK hAe (e1 := (oX2 h 0 0 0 0 0 0 0 0 0 0).2) (nw := []) hw dX2_init_4 ⟨rfl, rfl⟩
set_option maxHeartbeats 4000000 in
set_option maxRecDepth 100000 in
theorem kX0_init (l : Launch) (X : KX) (kS : Nat → Nat) (h : Nat) : CI l X kS yX0_init wsX0_init ({ frames := 1, cells := 3, slots := 60, locals := 60 }) [.ref h] h (.inr (0, [.null, .null, .null, .int (iI 0), .int (iI 0)])) (fun e8 nw8 => ∃ k1 : Nat, ∃ k2 : Nat, ∃ k3 : Nat, e8 = (oX0 h k1 k2 k3 0 0).2 ∧ nw8 = [arI X k1 20 (fun _ => 0), arI X k2 20 (fun _ => 0), arI X k3 20 (fun _ => 0)]) 3 60 := by
  refine lo_enterI (cc := cX0_init) (maxL := 1) (ret := none) (lv := [(0, .ref h)]) (by decide) rfl rfl (Nat.le_of_ble_eq_true rfl) ?_
  intro p9 e9 s9 m9 bl9 me9 c9 A9 ls hAe E hRt hLk hK hl hw hV hin9
  have Ex := E.1
  have Eb := E.2.1
  have hol : (Cond.methodLink RX0 3 objectInit).before _ s9 = true := E.2.2.2.2 _ (List.mem_of_getElem? (i := 1) rfl)
  have hoi : (Cond.instanceMethod objectInit).before _ s9 = true := E.2.2.2.2 _ (List.mem_of_getElem? (i := 2) rfl)
  have hoc : (Cond.code objectInit ⟨#[0xb1]⟩ 1 none).before _ s9 = true := E.2.2.2.2 _ (List.mem_of_getElem? (i := 3) rfl)
  have harI : (Cond.arrayClass .int).before _ s9 = true := E.2.2.2.2 _ (List.mem_of_getElem? (i := 4) rfl)
  have huRX0 : ∀ w ∈ u_ws RX0 TX0 5, w ∈ wsX0_init := by decide +kernel
  have hf9 : (Cond.fieldLink RX0 9 "LoanSchedule$Book" "loans" "[I").before _ s9 = true := E.2.2.2.2 _ (List.mem_of_getElem? (i := 5) rfl)
  have hf15 : (Cond.fieldLink RX0 15 "LoanSchedule$Book" "amounts" "[I").before _ s9 = true := E.2.2.2.2 _ (List.mem_of_getElem? (i := 6) rfl)
  have hf18 : (Cond.fieldLink RX0 18 "LoanSchedule$Book" "interests" "[I").before _ s9 = true := E.2.2.2.2 _ (List.mem_of_getElem? (i := 7) rfl)
  have hf21 : (Cond.fieldLink RX0 21 "LoanSchedule$Book" "next" "I").before _ s9 = true := E.2.2.2.2 _ (List.mem_of_getElem? (i := 8) rfl)
  have hf25 : (Cond.fieldLink RX0 25 "LoanSchedule$Book" "kept" "I").before _ s9 = true := E.2.2.2.2 _ (List.mem_of_getElem? (i := 9) rfl)
  refine lv_aload_n Ex Eb dX0_init_0 rfl (lv_at hl 0 rfl) ?_
  refine lo_obj E hl.1 hol hoi hoc dX0_init_1 (Nat.le_of_ble_eq_true rfl) (Nat.le_of_ble_eq_true rfl) ?_
  refine lv_aload_n Ex Eb dX0_init_4 rfl (lv_at hl 0 rfl) ?_
  refine lv_bipush (v := iI 20) Ex Eb dX0_init_5 rfl ?_
  refine lo_newI E hK hw harI (N := 20) (by omega) rfl (Nat.le_of_ble_eq_true rfl) (Nat.le_of_ble_eq_true rfl) (Nat.le_of_ble_eq_true rfl) dX0_init_7 (fun ad1 H hw => ?_)
  have hw : lo_Wd X ([(h, .inr (0, [.null, .null, .null, .int (iI 0), .int (iI 0)])), arI X ad1 20 (fun _ => 0)]) A9 s9.heap _ _ := hw
  refine lo_putF E hK hw huRX0 tyX0 tyX0_ok nmX0 0 hf9 rfl 0 rfl rfl (by decide) rfl hin9 rfl rfl rfl rfl (Nat.le_of_ble_eq_true rfl) (ws' := [(h, .inr (0, [.ref ad1, .null, .null, .int (iI 0), .int (iI 0)])), arI X ad1 20 (fun _ => 0)]) rfl dX0_init_9 (fun H locs hw => ?_)
  refine lv_aload_n Ex Eb dX0_init_12 rfl (lv_at hl 0 rfl) ?_
  refine lv_bipush (v := iI 20) Ex Eb dX0_init_13 rfl ?_
  refine lo_newI E hK hw harI (N := 20) (by omega) rfl (Nat.le_of_ble_eq_true rfl) (Nat.le_of_ble_eq_true rfl) (Nat.le_of_ble_eq_true rfl) dX0_init_15 (fun ad2 H hw => ?_)
  have hw : lo_Wd X ([(h, .inr (0, [.ref ad1, .null, .null, .int (iI 0), .int (iI 0)])), arI X ad1 20 (fun _ => 0), arI X ad2 20 (fun _ => 0)]) A9 s9.heap _ _ := hw
  refine lo_putF E hK hw huRX0 tyX0 tyX0_ok nmX0 1 hf15 rfl 0 rfl rfl (by decide) rfl hin9 rfl rfl rfl rfl (Nat.le_of_ble_eq_true rfl) (ws' := [(h, .inr (0, [.ref ad1, .ref ad2, .null, .int (iI 0), .int (iI 0)])), arI X ad1 20 (fun _ => 0), arI X ad2 20 (fun _ => 0)]) rfl dX0_init_17 (fun H locs hw => ?_)
  refine lv_aload_n Ex Eb dX0_init_20 rfl (lv_at hl 0 rfl) ?_
  refine lv_bipush (v := iI 20) Ex Eb dX0_init_21 rfl ?_
  refine lo_newI E hK hw harI (N := 20) (by omega) rfl (Nat.le_of_ble_eq_true rfl) (Nat.le_of_ble_eq_true rfl) (Nat.le_of_ble_eq_true rfl) dX0_init_23 (fun ad3 H hw => ?_)
  have hw : lo_Wd X ([(h, .inr (0, [.ref ad1, .ref ad2, .null, .int (iI 0), .int (iI 0)])), arI X ad1 20 (fun _ => 0), arI X ad2 20 (fun _ => 0), arI X ad3 20 (fun _ => 0)]) A9 s9.heap _ _ := hw
  refine lo_putF E hK hw huRX0 tyX0 tyX0_ok nmX0 2 hf18 rfl 0 rfl rfl (by decide) rfl hin9 rfl rfl rfl rfl (Nat.le_of_ble_eq_true rfl) (ws' := [oX0 h ad1 ad2 ad3 0 0, arI X ad1 20 (fun _ => 0), arI X ad2 20 (fun _ => 0), arI X ad3 20 (fun _ => 0)]) rfl dX0_init_25 (fun H locs hw => ?_)
  refine lv_aload_n Ex Eb dX0_init_28 rfl (lv_at hl 0 rfl) ?_
  refine lv_iconst (v := iI 0) Ex Eb dX0_init_29 rfl ?_
  refine lo_put E hK hw huRX0 tyX0 tyX0_ok nmX0 3 hf21 rfl 0 rfl rfl (by decide) rfl rfl rfl rfl (Nat.le_of_ble_eq_true rfl) (ws' := [oX0 h ad1 ad2 ad3 0 0, arI X ad1 20 (fun _ => 0), arI X ad2 20 (fun _ => 0), arI X ad3 20 (fun _ => 0)]) rfl dX0_init_30 (fun H locs hw => ?_)
  refine lv_aload_n Ex Eb dX0_init_33 rfl (lv_at hl 0 rfl) ?_
  refine lv_iconst (v := iI 0) Ex Eb dX0_init_34 rfl ?_
  refine lo_put E hK hw huRX0 tyX0 tyX0_ok nmX0 4 hf25 rfl 0 rfl rfl (by decide) rfl rfl rfl rfl (Nat.le_of_ble_eq_true rfl) (ws' := [oX0 h ad1 ad2 ad3 0 0, arI X ad1 20 (fun _ => 0), arI X ad2 20 (fun _ => 0), arI X ad3 20 (fun _ => 0)]) rfl dX0_init_35 (fun H locs hw => ?_)
  exact lo_vretI E hRt hLk hK hAe (e1 := (oX0 h ad1 ad2 ad3 0 0).2) (nw := [arI X ad1 20 (fun _ => 0), arI X ad2 20 (fun _ => 0), arI X ad3 20 (fun _ => 0)]) hw dX0_init_38 ⟨ad1, ad2, ad3, rfl, rfl⟩
set_option maxHeartbeats 4000000 in
set_option maxRecDepth 100000 in
theorem kX4_init (l : Launch) (X : KX) (kS : Nat → Nat) (h : Nat) : CI l X kS yX4_init wsX4_init ({ frames := 1, cells := 1, slots := 256, locals := 60 }) [.ref h] h (.inr (4, [.null, .int (iI 0)])) (fun e8 nw8 => ∃ k1 : Nat, e8 = (oX4 h k1 0).2 ∧ nw8 = [arB X k1 256 (fun _ => 0)]) 1 256 := by
  refine lo_enterI (cc := cX4_init) (maxL := 1) (ret := none) (lv := [(0, .ref h)]) (by decide) rfl rfl (Nat.le_of_ble_eq_true rfl) ?_
  intro p9 e9 s9 m9 bl9 me9 c9 A9 ls hAe E hRt hLk hK hl hw hV hin9
  have Ex := E.1
  have Eb := E.2.1
  have hol : (Cond.methodLink RX4 1 objectInit).before _ s9 = true := E.2.2.2.2 _ (List.mem_of_getElem? (i := 1) rfl)
  have hoi : (Cond.instanceMethod objectInit).before _ s9 = true := E.2.2.2.2 _ (List.mem_of_getElem? (i := 2) rfl)
  have hoc : (Cond.code objectInit ⟨#[0xb1]⟩ 1 none).before _ s9 = true := E.2.2.2.2 _ (List.mem_of_getElem? (i := 3) rfl)
  have harB : (Cond.arrayClass .byte).before _ s9 = true := E.2.2.2.2 _ (List.mem_of_getElem? (i := 4) rfl)
  have huRX4 : ∀ w ∈ u_ws RX4 TX4 2, w ∈ wsX4_init := by decide +kernel
  have hf9 : (Cond.fieldLink RX4 9 "LoanSchedule$Report" "bytes" "[B").before _ s9 = true := E.2.2.2.2 _ (List.mem_of_getElem? (i := 5) rfl)
  have hf13 : (Cond.fieldLink RX4 13 "LoanSchedule$Report" "size" "I").before _ s9 = true := E.2.2.2.2 _ (List.mem_of_getElem? (i := 6) rfl)
  refine lv_aload_n Ex Eb dX4_init_0 rfl (lv_at hl 0 rfl) ?_
  refine lo_obj E hl.1 hol hoi hoc dX4_init_1 (Nat.le_of_ble_eq_true rfl) (Nat.le_of_ble_eq_true rfl) ?_
  refine lv_aload_n Ex Eb dX4_init_4 rfl (lv_at hl 0 rfl) ?_
  refine lv_sipush (v := iI 256) Ex Eb dX4_init_5 rfl ?_
  refine lo_newB E hK hw harB (N := 256) (by omega) rfl (Nat.le_of_ble_eq_true rfl) (Nat.le_of_ble_eq_true rfl) (Nat.le_of_ble_eq_true rfl) dX4_init_8 (fun ad1 H hw => ?_)
  have hw : lo_Wd X ([(h, .inr (4, [.null, .int (iI 0)])), arB X ad1 256 (fun _ => 0)]) A9 s9.heap _ _ := hw
  refine lo_putF E hK hw huRX4 tyX4 tyX4_ok nmX4 0 hf9 rfl 0 rfl rfl (by decide) rfl hin9 rfl rfl rfl rfl (Nat.le_of_ble_eq_true rfl) (ws' := [oX4 h ad1 0, arB X ad1 256 (fun _ => 0)]) rfl dX4_init_10 (fun H locs hw => ?_)
  refine lv_aload_n Ex Eb dX4_init_13 rfl (lv_at hl 0 rfl) ?_
  refine lv_iconst (v := iI 0) Ex Eb dX4_init_14 rfl ?_
  refine lo_put E hK hw huRX4 tyX4 tyX4_ok nmX4 1 hf13 rfl 0 rfl rfl (by decide) rfl rfl rfl rfl (Nat.le_of_ble_eq_true rfl) (ws' := [oX4 h ad1 0, arB X ad1 256 (fun _ => 0)]) rfl dX4_init_15 (fun H locs hw => ?_)
  exact lo_vretI E hRt hLk hK hAe (e1 := (oX4 h ad1 0).2) (nw := [arB X ad1 256 (fun _ => 0)]) hw dX4_init_18 ⟨ad1, rfl, rfl⟩
set_option maxHeartbeats 4000000 in
set_option maxRecDepth 100000 in
theorem kX6_init (l : Launch) (X : KX) (kS : Nat → Nat) (h t : Nat) : CI l X kS yX6_init wsX6_init ({ frames := 1, cells := 0, slots := 0, locals := 60 }) [.ref h, .ref t] h (.inr (6, [.null, .int (iI 0), .int (iI 0), .int (iI 0), .int (iI 0), .int (iI 0)])) (fun e8 nw8 => e8 = (oX6 h t 0 0 0 0 0).2 ∧ nw8 = []) 0 0 := by
  refine lo_enterI (cc := cX6_init) (maxL := 2) (ret := none) (lv := [(0, .ref h), (1, .ref t)]) (by decide) rfl rfl (Nat.le_of_ble_eq_true rfl) ?_
  intro p9 e9 s9 m9 bl9 me9 c9 A9 ls hAe E hRt hLk hK hl hw hV hin9
  have Ex := E.1
  have Eb := E.2.1
  have hol : (Cond.methodLink RX6 3 objectInit).before _ s9 = true := E.2.2.2.2 _ (List.mem_of_getElem? (i := 1) rfl)
  have hoi : (Cond.instanceMethod objectInit).before _ s9 = true := E.2.2.2.2 _ (List.mem_of_getElem? (i := 2) rfl)
  have hoc : (Cond.code objectInit ⟨#[0xb1]⟩ 1 none).before _ s9 = true := E.2.2.2.2 _ (List.mem_of_getElem? (i := 3) rfl)
  have huRX6 : ∀ w ∈ u_ws RX6 TX6 6, w ∈ wsX6_init := by decide +kernel
  have hf9 : (Cond.fieldLink RX6 9 "LoanSchedule$Tokens" "length" "I").before _ s9 = true := E.2.2.2.2 _ (List.mem_of_getElem? (i := 4) rfl)
  have hf15 : (Cond.fieldLink RX6 15 "LoanSchedule$Tokens" "position" "I").before _ s9 = true := E.2.2.2.2 _ (List.mem_of_getElem? (i := 5) rfl)
  have hf18 : (Cond.fieldLink RX6 18 "LoanSchedule$Tokens" "start" "I").before _ s9 = true := E.2.2.2.2 _ (List.mem_of_getElem? (i := 6) rfl)
  have hf21 : (Cond.fieldLink RX6 21 "LoanSchedule$Tokens" "kind" "I").before _ s9 = true := E.2.2.2.2 _ (List.mem_of_getElem? (i := 7) rfl)
  have hf24 : (Cond.fieldLink RX6 24 "LoanSchedule$Tokens" "value" "I").before _ s9 = true := E.2.2.2.2 _ (List.mem_of_getElem? (i := 8) rfl)
  have hf27 : (Cond.fieldLink RX6 27 "LoanSchedule$Tokens" "text" "[B").before _ s9 = true := E.2.2.2.2 _ (List.mem_of_getElem? (i := 9) rfl)
  refine lv_aload_n Ex Eb dX6_init_0 rfl (lv_at hl 0 rfl) ?_
  refine lo_obj E hl.1 hol hoi hoc dX6_init_1 (Nat.le_of_ble_eq_true rfl) (Nat.le_of_ble_eq_true rfl) ?_
  refine lv_aload_n Ex Eb dX6_init_4 rfl (lv_at hl 0 rfl) ?_
  refine lv_iconst (v := iI 0) Ex Eb dX6_init_5 rfl ?_
  refine lo_put E hK hw huRX6 tyX6 tyX6_ok nmX6 1 hf9 rfl 0 rfl rfl (by decide) rfl rfl rfl rfl (Nat.le_of_ble_eq_true rfl) (ws' := [(h, .inr (6, [.null, .int (iI 0), .int (iI 0), .int (iI 0), .int (iI 0), .int (iI 0)]))]) rfl dX6_init_6 (fun H locs hw => ?_)
  refine lv_aload_n Ex Eb dX6_init_9 rfl (lv_at hl 0 rfl) ?_
  refine lv_iconst (v := iI 0) Ex Eb dX6_init_10 rfl ?_
  refine lo_put E hK hw huRX6 tyX6 tyX6_ok nmX6 2 hf15 rfl 0 rfl rfl (by decide) rfl rfl rfl rfl (Nat.le_of_ble_eq_true rfl) (ws' := [(h, .inr (6, [.null, .int (iI 0), .int (iI 0), .int (iI 0), .int (iI 0), .int (iI 0)]))]) rfl dX6_init_11 (fun H locs hw => ?_)
  refine lv_aload_n Ex Eb dX6_init_14 rfl (lv_at hl 0 rfl) ?_
  refine lv_iconst (v := iI 0) Ex Eb dX6_init_15 rfl ?_
  refine lo_put E hK hw huRX6 tyX6 tyX6_ok nmX6 3 hf18 rfl 0 rfl rfl (by decide) rfl rfl rfl rfl (Nat.le_of_ble_eq_true rfl) (ws' := [(h, .inr (6, [.null, .int (iI 0), .int (iI 0), .int (iI 0), .int (iI 0), .int (iI 0)]))]) rfl dX6_init_16 (fun H locs hw => ?_)
  refine lv_aload_n Ex Eb dX6_init_19 rfl (lv_at hl 0 rfl) ?_
  refine lv_iconst (v := iI 0) Ex Eb dX6_init_20 rfl ?_
  refine lo_put E hK hw huRX6 tyX6 tyX6_ok nmX6 4 hf21 rfl 0 rfl rfl (by decide) rfl rfl rfl rfl (Nat.le_of_ble_eq_true rfl) (ws' := [(h, .inr (6, [.null, .int (iI 0), .int (iI 0), .int (iI 0), .int (iI 0), .int (iI 0)]))]) rfl dX6_init_21 (fun H locs hw => ?_)
  refine lv_aload_n Ex Eb dX6_init_24 rfl (lv_at hl 0 rfl) ?_
  refine lv_iconst (v := iI 0) Ex Eb dX6_init_25 rfl ?_
  refine lo_put E hK hw huRX6 tyX6 tyX6_ok nmX6 5 hf24 rfl 0 rfl rfl (by decide) rfl rfl rfl rfl (Nat.le_of_ble_eq_true rfl) (ws' := [(h, .inr (6, [.null, .int (iI 0), .int (iI 0), .int (iI 0), .int (iI 0), .int (iI 0)]))]) rfl dX6_init_26 (fun H locs hw => ?_)
  refine lv_aload_n Ex Eb dX6_init_29 rfl (lv_at hl 0 rfl) ?_
  refine lv_aload_n Ex Eb dX6_init_30 rfl (lv_at hl 1 rfl) ?_
  refine lo_putF E hK hw huRX6 tyX6 tyX6_ok nmX6 0 hf27 rfl 0 rfl rfl (by decide) rfl hin9 rfl rfl rfl rfl (Nat.le_of_ble_eq_true rfl) (ws' := [oX6 h t 0 0 0 0 0]) rfl dX6_init_31 (fun H locs hw => ?_)
  exact lo_vretI E hRt hLk hK hAe (e1 := (oX6 h t 0 0 0 0 0).2) (nw := []) hw dX6_init_34 ⟨rfl, rfl⟩
set_option maxHeartbeats 4000000 in
set_option maxRecDepth 100000 in
theorem kX5_init (l : Launch) (X : KX) (kS : Nat → Nat) (h t tg : Nat) : CI l X kS yX5_init wsX5_init ({ frames := 2, cells := 4, slots := 15, locals := 81 }) [.ref h, .ref t, .ref tg] h (.inr (5, [.null, .null, .int (iI 0), .int (iI 0), .int (iI 0), .null, .null, .null, .int (iI 0), .int (iI 0), .int (iI 0), .int (iI 0), .int (iI 0), .int (iI 0)])) (fun e8 nw8 => ∃ k1 : Nat, ∃ k2 : Nat, ∃ k3 : Nat, ∃ k4 : Nat, e8 = (oX5 h k4 tg 0 0 0 k1 k2 k3 0 0 0 0 0 (-1)).2 ∧ nw8 = [arI X k1 3 (fun _ => 0), arI X k2 3 (fun _ => 0), arI X k3 3 (fun _ => 0), oX6 k4 t 0 0 0 0 0]) 4 15 := by
  refine lo_enterI (cc := cX5_init) (maxL := 3) (ret := none) (lv := [(0, .ref h), (1, .ref t), (2, .ref tg)]) (by decide) rfl rfl (Nat.le_of_ble_eq_true rfl) ?_
  intro p9 e9 s9 m9 bl9 me9 c9 A9 ls hAe E hRt hLk hK hl hw hV hin9
  have Ex := E.1
  have Eb := E.2.1
  have hol : (Cond.methodLink RX5 3 objectInit).before _ s9 = true := E.2.2.2.2 _ (List.mem_of_getElem? (i := 1) rfl)
  have hoi : (Cond.instanceMethod objectInit).before _ s9 = true := E.2.2.2.2 _ (List.mem_of_getElem? (i := 2) rfl)
  have hoc : (Cond.code objectInit ⟨#[0xb1]⟩ 1 none).before _ s9 = true := E.2.2.2.2 _ (List.mem_of_getElem? (i := 3) rfl)
  have huRX5 : ∀ w ∈ u_ws RX5 TX5 14, w ∈ wsX5_init := by decide +kernel
  have hf9 : (Cond.fieldLink RX5 9 "LoanSchedule$Script" "ended" "Z").before _ s9 = true := E.2.2.2.2 _ (List.mem_of_getElem? (i := 4) rfl)
  have hf15 : (Cond.fieldLink RX5 15 "LoanSchedule$Script" "executed" "I").before _ s9 = true := E.2.2.2.2 _ (List.mem_of_getElem? (i := 5) rfl)
  have hf19 : (Cond.fieldLink RX5 19 "LoanSchedule$Script" "depth" "I").before _ s9 = true := E.2.2.2.2 _ (List.mem_of_getElem? (i := 6) rfl)
  have harI : (Cond.arrayClass .int).before _ s9 = true := E.2.2.2.2 _ (List.mem_of_getElem? (i := 7) rfl)
  have hf22 : (Cond.fieldLink RX5 22 "LoanSchedule$Script" "bodyStart" "[I").before _ s9 = true := E.2.2.2.2 _ (List.mem_of_getElem? (i := 8) rfl)
  have hf26 : (Cond.fieldLink RX5 26 "LoanSchedule$Script" "passesLeft" "[I").before _ s9 = true := E.2.2.2.2 _ (List.mem_of_getElem? (i := 9) rfl)
  have hf29 : (Cond.fieldLink RX5 29 "LoanSchedule$Script" "executedBefore" "[I").before _ s9 = true := E.2.2.2.2 _ (List.mem_of_getElem? (i := 10) rfl)
  have hf32 : (Cond.fieldLink RX5 32 "LoanSchedule$Script" "first" "I").before _ s9 = true := E.2.2.2.2 _ (List.mem_of_getElem? (i := 11) rfl)
  have hf35 : (Cond.fieldLink RX5 35 "LoanSchedule$Script" "second" "I").before _ s9 = true := E.2.2.2.2 _ (List.mem_of_getElem? (i := 12) rfl)
  have hf38 : (Cond.fieldLink RX5 38 "LoanSchedule$Script" "third" "I").before _ s9 = true := E.2.2.2.2 _ (List.mem_of_getElem? (i := 13) rfl)
  have hf41 : (Cond.fieldLink RX5 41 "LoanSchedule$Script" "keepTerm" "Z").before _ s9 = true := E.2.2.2.2 _ (List.mem_of_getElem? (i := 14) rfl)
  have hf44 : (Cond.fieldLink RX5 44 "LoanSchedule$Script" "errorKind" "I").before _ s9 = true := E.2.2.2.2 _ (List.mem_of_getElem? (i := 15) rfl)
  have hf47 : (Cond.fieldLink RX5 47 "LoanSchedule$Script" "errorOffset" "I").before _ s9 = true := E.2.2.2.2 _ (List.mem_of_getElem? (i := 16) rfl)
  have huRX6 : ∀ w ∈ u_ws RX6 TX6 6, w ∈ wsX5_init := by decide +kernel
  have hcl50 : (Cond.classLink RX5 50 RX6).before _ s9 = true := E.2.2.2.2 _ (List.mem_of_getElem? (i := 17) rfl)
  have hinRX6 : (Cond.instantiable RX6 6).before _ s9 = true := E.2.2.2.2 _ (List.mem_of_getElem? (i := 18) rfl)
  have hiiRX6 : (Cond.initialized RX6).before _ s9 = true := E.2.2.2.2 _ (List.mem_of_getElem? (i := 19) rfl)
  have himX6_init : (Cond.instanceMethod yX6_init).before _ s9 = true := E.2.2.2.2 _ (List.mem_of_getElem? (i := 23) rfl)
  have hml52 : (Cond.methodLink RX5 52 yX6_init).before _ s9 = true := E.2.2.2.2 _ (List.mem_of_getElem? (i := 22) rfl)
  have hf55 : (Cond.fieldLink RX5 55 "LoanSchedule$Script" "tokens" "LLoanSchedule$Tokens;").before _ s9 = true := E.2.2.2.2 _ (List.mem_of_getElem? (i := 20) rfl)
  have hf59 : (Cond.fieldLink RX5 59 "LoanSchedule$Script" "target" "LLoanSchedule$Plan;").before _ s9 = true := E.2.2.2.2 _ (List.mem_of_getElem? (i := 21) rfl)
  refine lv_aload_n Ex Eb dX5_init_0 rfl (lv_at hl 0 rfl) ?_
  refine lo_obj E hl.1 hol hoi hoc dX5_init_1 (Nat.le_of_ble_eq_true rfl) (Nat.le_of_ble_eq_true rfl) ?_
  refine lv_aload_n Ex Eb dX5_init_4 rfl (lv_at hl 0 rfl) ?_
  refine lv_iconst (v := iI 0) Ex Eb dX5_init_5 rfl ?_
  refine lo_put E hK hw huRX5 tyX5 tyX5_ok nmX5 2 hf9 rfl 0 rfl rfl (by decide) rfl rfl rfl rfl (Nat.le_of_ble_eq_true rfl) (ws' := [(h, .inr (5, [.null, .null, .int (iI 0), .int (iI 0), .int (iI 0), .null, .null, .null, .int (iI 0), .int (iI 0), .int (iI 0), .int (iI 0), .int (iI 0), .int (iI 0)]))]) rfl dX5_init_6 (fun H locs hw => ?_)
  refine lv_aload_n Ex Eb dX5_init_9 rfl (lv_at hl 0 rfl) ?_
  refine lv_iconst (v := iI 0) Ex Eb dX5_init_10 rfl ?_
  refine lo_put E hK hw huRX5 tyX5 tyX5_ok nmX5 3 hf15 rfl 0 rfl rfl (by decide) rfl rfl rfl rfl (Nat.le_of_ble_eq_true rfl) (ws' := [(h, .inr (5, [.null, .null, .int (iI 0), .int (iI 0), .int (iI 0), .null, .null, .null, .int (iI 0), .int (iI 0), .int (iI 0), .int (iI 0), .int (iI 0), .int (iI 0)]))]) rfl dX5_init_11 (fun H locs hw => ?_)
  refine lv_aload_n Ex Eb dX5_init_14 rfl (lv_at hl 0 rfl) ?_
  refine lv_iconst (v := iI 0) Ex Eb dX5_init_15 rfl ?_
  refine lo_put E hK hw huRX5 tyX5 tyX5_ok nmX5 4 hf19 rfl 0 rfl rfl (by decide) rfl rfl rfl rfl (Nat.le_of_ble_eq_true rfl) (ws' := [(h, .inr (5, [.null, .null, .int (iI 0), .int (iI 0), .int (iI 0), .null, .null, .null, .int (iI 0), .int (iI 0), .int (iI 0), .int (iI 0), .int (iI 0), .int (iI 0)]))]) rfl dX5_init_16 (fun H locs hw => ?_)
  refine lv_aload_n Ex Eb dX5_init_19 rfl (lv_at hl 0 rfl) ?_
  refine lv_iconst (v := iI 3) Ex Eb dX5_init_20 rfl ?_
  refine lo_newI E hK hw harI (N := 3) (by omega) rfl (Nat.le_of_ble_eq_true rfl) (Nat.le_of_ble_eq_true rfl) (Nat.le_of_ble_eq_true rfl) dX5_init_21 (fun ad1 H hw => ?_)
  have hw : lo_Wd X ([(h, .inr (5, [.null, .null, .int (iI 0), .int (iI 0), .int (iI 0), .null, .null, .null, .int (iI 0), .int (iI 0), .int (iI 0), .int (iI 0), .int (iI 0), .int (iI 0)])), arI X ad1 3 (fun _ => 0)]) A9 s9.heap _ _ := hw
  refine lo_putF E hK hw huRX5 tyX5 tyX5_ok nmX5 5 hf22 rfl 0 rfl rfl (by decide) rfl hin9 rfl rfl rfl rfl (Nat.le_of_ble_eq_true rfl) (ws' := [(h, .inr (5, [.null, .null, .int (iI 0), .int (iI 0), .int (iI 0), .ref ad1, .null, .null, .int (iI 0), .int (iI 0), .int (iI 0), .int (iI 0), .int (iI 0), .int (iI 0)])), arI X ad1 3 (fun _ => 0)]) rfl dX5_init_23 (fun H locs hw => ?_)
  refine lv_aload_n Ex Eb dX5_init_26 rfl (lv_at hl 0 rfl) ?_
  refine lv_iconst (v := iI 3) Ex Eb dX5_init_27 rfl ?_
  refine lo_newI E hK hw harI (N := 3) (by omega) rfl (Nat.le_of_ble_eq_true rfl) (Nat.le_of_ble_eq_true rfl) (Nat.le_of_ble_eq_true rfl) dX5_init_28 (fun ad2 H hw => ?_)
  have hw : lo_Wd X ([(h, .inr (5, [.null, .null, .int (iI 0), .int (iI 0), .int (iI 0), .ref ad1, .null, .null, .int (iI 0), .int (iI 0), .int (iI 0), .int (iI 0), .int (iI 0), .int (iI 0)])), arI X ad1 3 (fun _ => 0), arI X ad2 3 (fun _ => 0)]) A9 s9.heap _ _ := hw
  refine lo_putF E hK hw huRX5 tyX5 tyX5_ok nmX5 6 hf26 rfl 0 rfl rfl (by decide) rfl hin9 rfl rfl rfl rfl (Nat.le_of_ble_eq_true rfl) (ws' := [(h, .inr (5, [.null, .null, .int (iI 0), .int (iI 0), .int (iI 0), .ref ad1, .ref ad2, .null, .int (iI 0), .int (iI 0), .int (iI 0), .int (iI 0), .int (iI 0), .int (iI 0)])), arI X ad1 3 (fun _ => 0), arI X ad2 3 (fun _ => 0)]) rfl dX5_init_30 (fun H locs hw => ?_)
  refine lv_aload_n Ex Eb dX5_init_33 rfl (lv_at hl 0 rfl) ?_
  refine lv_iconst (v := iI 3) Ex Eb dX5_init_34 rfl ?_
  refine lo_newI E hK hw harI (N := 3) (by omega) rfl (Nat.le_of_ble_eq_true rfl) (Nat.le_of_ble_eq_true rfl) (Nat.le_of_ble_eq_true rfl) dX5_init_35 (fun ad3 H hw => ?_)
  have hw : lo_Wd X ([(h, .inr (5, [.null, .null, .int (iI 0), .int (iI 0), .int (iI 0), .ref ad1, .ref ad2, .null, .int (iI 0), .int (iI 0), .int (iI 0), .int (iI 0), .int (iI 0), .int (iI 0)])), arI X ad1 3 (fun _ => 0), arI X ad2 3 (fun _ => 0), arI X ad3 3 (fun _ => 0)]) A9 s9.heap _ _ := hw
  refine lo_putF E hK hw huRX5 tyX5 tyX5_ok nmX5 7 hf29 rfl 0 rfl rfl (by decide) rfl hin9 rfl rfl rfl rfl (Nat.le_of_ble_eq_true rfl) (ws' := [(h, .inr (5, [.null, .null, .int (iI 0), .int (iI 0), .int (iI 0), .ref ad1, .ref ad2, .ref ad3, .int (iI 0), .int (iI 0), .int (iI 0), .int (iI 0), .int (iI 0), .int (iI 0)])), arI X ad1 3 (fun _ => 0), arI X ad2 3 (fun _ => 0), arI X ad3 3 (fun _ => 0)]) rfl dX5_init_37 (fun H locs hw => ?_)
  refine lv_aload_n Ex Eb dX5_init_40 rfl (lv_at hl 0 rfl) ?_
  refine lv_iconst (v := iI 0) Ex Eb dX5_init_41 rfl ?_
  refine lo_put E hK hw huRX5 tyX5 tyX5_ok nmX5 8 hf32 rfl 0 rfl rfl (by decide) rfl rfl rfl rfl (Nat.le_of_ble_eq_true rfl) (ws' := [(h, .inr (5, [.null, .null, .int (iI 0), .int (iI 0), .int (iI 0), .ref ad1, .ref ad2, .ref ad3, .int (iI 0), .int (iI 0), .int (iI 0), .int (iI 0), .int (iI 0), .int (iI 0)])), arI X ad1 3 (fun _ => 0), arI X ad2 3 (fun _ => 0), arI X ad3 3 (fun _ => 0)]) rfl dX5_init_42 (fun H locs hw => ?_)
  refine lv_aload_n Ex Eb dX5_init_45 rfl (lv_at hl 0 rfl) ?_
  refine lv_iconst (v := iI 0) Ex Eb dX5_init_46 rfl ?_
  refine lo_put E hK hw huRX5 tyX5 tyX5_ok nmX5 9 hf35 rfl 0 rfl rfl (by decide) rfl rfl rfl rfl (Nat.le_of_ble_eq_true rfl) (ws' := [(h, .inr (5, [.null, .null, .int (iI 0), .int (iI 0), .int (iI 0), .ref ad1, .ref ad2, .ref ad3, .int (iI 0), .int (iI 0), .int (iI 0), .int (iI 0), .int (iI 0), .int (iI 0)])), arI X ad1 3 (fun _ => 0), arI X ad2 3 (fun _ => 0), arI X ad3 3 (fun _ => 0)]) rfl dX5_init_47 (fun H locs hw => ?_)
  refine lv_aload_n Ex Eb dX5_init_50 rfl (lv_at hl 0 rfl) ?_
  refine lv_iconst (v := iI 0) Ex Eb dX5_init_51 rfl ?_
  refine lo_put E hK hw huRX5 tyX5 tyX5_ok nmX5 10 hf38 rfl 0 rfl rfl (by decide) rfl rfl rfl rfl (Nat.le_of_ble_eq_true rfl) (ws' := [(h, .inr (5, [.null, .null, .int (iI 0), .int (iI 0), .int (iI 0), .ref ad1, .ref ad2, .ref ad3, .int (iI 0), .int (iI 0), .int (iI 0), .int (iI 0), .int (iI 0), .int (iI 0)])), arI X ad1 3 (fun _ => 0), arI X ad2 3 (fun _ => 0), arI X ad3 3 (fun _ => 0)]) rfl dX5_init_52 (fun H locs hw => ?_)
  refine lv_aload_n Ex Eb dX5_init_55 rfl (lv_at hl 0 rfl) ?_
  refine lv_iconst (v := iI 0) Ex Eb dX5_init_56 rfl ?_
  refine lo_put E hK hw huRX5 tyX5 tyX5_ok nmX5 11 hf41 rfl 0 rfl rfl (by decide) rfl rfl rfl rfl (Nat.le_of_ble_eq_true rfl) (ws' := [(h, .inr (5, [.null, .null, .int (iI 0), .int (iI 0), .int (iI 0), .ref ad1, .ref ad2, .ref ad3, .int (iI 0), .int (iI 0), .int (iI 0), .int (iI 0), .int (iI 0), .int (iI 0)])), arI X ad1 3 (fun _ => 0), arI X ad2 3 (fun _ => 0), arI X ad3 3 (fun _ => 0)]) rfl dX5_init_57 (fun H locs hw => ?_)
  refine lv_aload_n Ex Eb dX5_init_60 rfl (lv_at hl 0 rfl) ?_
  refine lv_iconst (v := iI 0) Ex Eb dX5_init_61 rfl ?_
  refine lo_put E hK hw huRX5 tyX5 tyX5_ok nmX5 12 hf44 rfl 0 rfl rfl (by decide) rfl rfl rfl rfl (Nat.le_of_ble_eq_true rfl) (ws' := [(h, .inr (5, [.null, .null, .int (iI 0), .int (iI 0), .int (iI 0), .ref ad1, .ref ad2, .ref ad3, .int (iI 0), .int (iI 0), .int (iI 0), .int (iI 0), .int (iI 0), .int (iI 0)])), arI X ad1 3 (fun _ => 0), arI X ad2 3 (fun _ => 0), arI X ad3 3 (fun _ => 0)]) rfl dX5_init_62 (fun H locs hw => ?_)
  refine lv_aload_n Ex Eb dX5_init_65 rfl (lv_at hl 0 rfl) ?_
  refine lv_iconst (v := iI (-1)) Ex Eb dX5_init_66 rfl ?_
  refine lo_put E hK hw huRX5 tyX5 tyX5_ok nmX5 13 hf47 rfl 0 rfl rfl (by decide) rfl rfl rfl rfl (Nat.le_of_ble_eq_true rfl) (ws' := [(h, .inr (5, [.null, .null, .int (iI 0), .int (iI 0), .int (iI 0), .ref ad1, .ref ad2, .ref ad3, .int (iI 0), .int (iI 0), .int (iI 0), .int (iI 0), .int (iI 0), .int (iI (-1))])), arI X ad1 3 (fun _ => 0), arI X ad2 3 (fun _ => 0), arI X ad3 3 (fun _ => 0)]) rfl dX5_init_67 (fun H locs hw => ?_)
  refine lv_aload_n Ex Eb dX5_init_70 rfl (lv_at hl 0 rfl) ?_
  refine lo_newO E hK hw huRX6 tyX6 tyX6_ok hcl50 hinRX6 hiiRX6 (ci := 6) rfl (fs := [.null, .int (iI 0), .int (iI 0), .int (iI 0), .int (iI 0), .int (iI 0)]) (fun j hj => match j, hj with | 0, _ => rfl | 1, _ => rfl | 2, _ => rfl | 3, _ => rfl | 4, _ => rfl | 5, _ => rfl | j + 6, h => absurd h (by omega)) (Nat.le_of_ble_eq_true rfl) (Nat.le_of_ble_eq_true rfl) dX5_init_71 (fun ad4 H hw => ?_)
  have hw : lo_Wd X ([(h, .inr (5, [.null, .null, .int (iI 0), .int (iI 0), .int (iI 0), .ref ad1, .ref ad2, .ref ad3, .int (iI 0), .int (iI 0), .int (iI 0), .int (iI 0), .int (iI 0), .int (iI (-1))])), arI X ad1 3 (fun _ => 0), arI X ad2 3 (fun _ => 0), arI X ad3 3 (fun _ => 0), (ad4, .inr (6, [.null, .int (iI 0), .int (iI 0), .int (iI 0), .int (iI 0), .int (iI 0)]))]) A9 s9.heap _ _ := hw
  refine lv_dup Ex Eb dX5_init_74 rfl ?_
  refine lv_aload_n Ex Eb dX5_init_75 rfl (lv_at hl 1 rfl) ?_
  refine lo_callI (q0 := 4) (rest := [.ref ad4, .ref h]) E hK hw hV (kX6_init l X kS ad4 t ) (cwI 1 E.2.2.2.2 gX5_init_X6_init rfl rfl rfl hiiRX6 hml52 himX6_init rfl (by decide +kernel) ⟨Nat.le_of_ble_eq_true rfl, Nat.le_of_ble_eq_true rfl⟩) rfl hl.1 rfl rfl (Nat.le_of_ble_eq_true rfl) dX5_init_76 ⟨Nat.le_of_ble_eq_true rfl, Nat.le_of_ble_eq_true rfl⟩ (fun e1 nw H locs hq hw => ?_)
  obtain ⟨rfl, rfl⟩ := hq
  have hw : lo_Wd X ([(h, .inr (5, [.null, .null, .int (iI 0), .int (iI 0), .int (iI 0), .ref ad1, .ref ad2, .ref ad3, .int (iI 0), .int (iI 0), .int (iI 0), .int (iI 0), .int (iI 0), .int (iI (-1))])), arI X ad1 3 (fun _ => 0), arI X ad2 3 (fun _ => 0), arI X ad3 3 (fun _ => 0), oX6 ad4 t 0 0 0 0 0]) A9 s9.heap _ _ := hw
  refine W.eq (g2 := F0 m9 79 ls [.ref ad4, .ref h]) rfl ?_
  refine lo_putF E hK hw huRX5 tyX5 tyX5_ok nmX5 0 hf55 rfl 0 rfl rfl (by decide) rfl hin9 rfl rfl rfl rfl (Nat.le_of_ble_eq_true rfl) (ws' := [(h, .inr (5, [.ref ad4, .null, .int (iI 0), .int (iI 0), .int (iI 0), .ref ad1, .ref ad2, .ref ad3, .int (iI 0), .int (iI 0), .int (iI 0), .int (iI 0), .int (iI 0), .int (iI (-1))])), arI X ad1 3 (fun _ => 0), arI X ad2 3 (fun _ => 0), arI X ad3 3 (fun _ => 0), oX6 ad4 t 0 0 0 0 0]) rfl dX5_init_79 (fun H locs hw => ?_)
  refine lv_aload_n Ex Eb dX5_init_82 rfl (lv_at hl 0 rfl) ?_
  refine lv_aload_n Ex Eb dX5_init_83 rfl (lv_at hl 2 rfl) ?_
  refine lo_putF E hK hw huRX5 tyX5 tyX5_ok nmX5 1 hf59 rfl 0 rfl rfl (by decide) rfl hin9 rfl rfl rfl rfl (Nat.le_of_ble_eq_true rfl) (ws' := [oX5 h ad4 tg 0 0 0 ad1 ad2 ad3 0 0 0 0 0 (-1), arI X ad1 3 (fun _ => 0), arI X ad2 3 (fun _ => 0), arI X ad3 3 (fun _ => 0), oX6 ad4 t 0 0 0 0 0]) rfl dX5_init_84 (fun H locs hw => ?_)
  exact lo_vretI E hRt hLk hK hAe (e1 := (oX5 h ad4 tg 0 0 0 ad1 ad2 ad3 0 0 0 0 0 (-1)).2) (nw := [arI X ad1 3 (fun _ => 0), arI X ad2 3 (fun _ => 0), arI X ad3 3 (fun _ => 0), oX6 ad4 t 0 0 0 0 0]) hw dX5_init_87 ⟨ad1, ad2, ad3, ad4, rfl, rfl⟩
