set_option maxHeartbeats 4000000 in
set_option maxRecDepth 100000 in
theorem kX3_init (l : Launch) (X : KX) (kS : Nat → Nat) (h : Nat) : CI l X kS yX3_init wsX3_init ({ frames := 2, cells := 11, slots := 131, locals := 80 }) [.ref h] h (.inr (3, [.null, .null, .int (iI 0)])) (fun e8 nw8 => ∃ a : Nat → Nat, ∃ b : Nat → Nat, (a 0 = h) ∧ e8 = (oX3 (a 0) (a 1) (a 2) 0).2 ∧ nw8 = [arN X (a 1) 6 b, oX0 (a 2) (a 3) (a 4) (a 5) 0 0, arI X (a 3) 20 (fun _ => 0), arI X (a 4) 20 (fun _ => 0), arI X (a 5) 20 (fun _ => 0)] ++ ((lsW b (fun _ _ => 0)))) 11 131 := by
  refine lo_enterI (cc := cX3_init) (maxL := 2) (ret := none) (lv := [(0, .ref h)]) (by decide) rfl rfl (Nat.le_of_ble_eq_true rfl) ?_
  intro p9 e9 s9 m9 bl9 me9 c9 A9 ls hAe E hRt hLk hK hl hw hV hin9
  have Ex := E.1
  have Eb := E.2.1
  have hol : (Cond.methodLink RX3 3 objectInit).before _ s9 = true := E.2.2.2.2 _ (List.mem_of_getElem? (i := 1) rfl)
  have hoi : (Cond.instanceMethod objectInit).before _ s9 = true := E.2.2.2.2 _ (List.mem_of_getElem? (i := 2) rfl)
  have hoc : (Cond.code objectInit ⟨#[0xb1]⟩ 1 none).before _ s9 = true := E.2.2.2.2 _ (List.mem_of_getElem? (i := 3) rfl)
  have hcl9 : (Cond.classLink RX3 9 RX2).before _ s9 = true := E.2.2.2.2 _ (List.mem_of_getElem? (i := 4) rfl)
  have huRX3 : ∀ w ∈ u_ws RX3 TX3 3, w ∈ wsX3_init := by decide +kernel
  have hf11 : (Cond.fieldLink RX3 11 "LoanSchedule$Plan" "loans" "[LLoanSchedule$Loan;").before _ s9 = true := E.2.2.2.2 _ (List.mem_of_getElem? (i := 5) rfl)
  have huRX0 : ∀ w ∈ u_ws RX0 TX0 5, w ∈ wsX3_init := by decide +kernel
  have hcl17 : (Cond.classLink RX3 17 RX0).before _ s9 = true := E.2.2.2.2 _ (List.mem_of_getElem? (i := 6) rfl)
  have hinRX0 : (Cond.instantiable RX0 5).before _ s9 = true := E.2.2.2.2 _ (List.mem_of_getElem? (i := 7) rfl)
  have hiiRX0 : (Cond.initialized RX0).before _ s9 = true := E.2.2.2.2 _ (List.mem_of_getElem? (i := 8) rfl)
  have himX0_init : (Cond.instanceMethod yX0_init).before _ s9 = true := E.2.2.2.2 _ (List.mem_of_getElem? (i := 13) rfl)
  have hf20 : (Cond.fieldLink RX3 20 "LoanSchedule$Plan" "book" "LLoanSchedule$Book;").before _ s9 = true := E.2.2.2.2 _ (List.mem_of_getElem? (i := 9) rfl)
  have hf24 : (Cond.fieldLink RX3 24 "LoanSchedule$Plan" "count" "I").before _ s9 = true := E.2.2.2.2 _ (List.mem_of_getElem? (i := 10) rfl)
  have huRX2 : ∀ w ∈ u_ws RX2 TX2 10, w ∈ wsX3_init := by decide +kernel
  have hinRX2 : (Cond.instantiable RX2 10).before _ s9 = true := E.2.2.2.2 _ (List.mem_of_getElem? (i := 11) rfl)
  have hiiRX2 : (Cond.initialized RX2).before _ s9 = true := E.2.2.2.2 _ (List.mem_of_getElem? (i := 12) rfl)
  have himX2_init : (Cond.instanceMethod yX2_init).before _ s9 = true := E.2.2.2.2 _ (List.mem_of_getElem? (i := 22) rfl)
  refine lv_aload_n Ex Eb dX3_init_0 rfl (lv_at hl 0 rfl) ?_
  refine lo_obj E hl.1 hol hoi hoc dX3_init_1 (Nat.le_of_ble_eq_true rfl) (Nat.le_of_ble_eq_true rfl) ?_
  refine lv_aload_n Ex Eb dX3_init_4 rfl (lv_at hl 0 rfl) ?_
  refine lv_bipush (v := iI 6) Ex Eb dX3_init_5 rfl ?_
  refine lo_newQ (cQ := X.cN) E hK hw 2 rfl hcl9 hV.2.1 (N := 6) (by omega) rfl (Nat.le_of_ble_eq_true rfl) (Nat.le_of_ble_eq_true rfl) (Nat.le_of_ble_eq_true rfl) dX3_init_7 (fun ad1 H hw => ?_)
  have hw : lo_Wd X ([(h, .inr (3, [.null, .null, .int (iI 0)])), arZ ad1 X.cN 6 (fun _ => none)]) A9 s9.heap _ _ := hw
  refine lo_putF E hK hw huRX3 tyX3 tyX3_ok nmX3 0 hf11 rfl 0 rfl rfl (by decide) rfl hin9 rfl rfl rfl rfl (Nat.le_of_ble_eq_true rfl) (ws' := [(h, .inr (3, [.ref ad1, .null, .int (iI 0)])), arZ ad1 X.cN 6 (fun _ => none)]) rfl dX3_init_10 (fun H locs hw => ?_)
  refine lv_aload_n Ex Eb dX3_init_13 rfl (lv_at hl 0 rfl) ?_
  refine lo_newO E hK hw huRX0 tyX0 tyX0_ok hcl17 hinRX0 hiiRX0 (ci := 0) rfl (fs := [.null, .null, .null, .int (iI 0), .int (iI 0)]) (fun j hj => match j, hj with | 0, _ => rfl | 1, _ => rfl | 2, _ => rfl | 3, _ => rfl | 4, _ => rfl | j + 5, h => absurd h (by omega)) (Nat.le_of_ble_eq_true rfl) (Nat.le_of_ble_eq_true rfl) dX3_init_14 (fun ad2 H hw => ?_)
  have hw : lo_Wd X ([(h, .inr (3, [.ref ad1, .null, .int (iI 0)])), arZ ad1 X.cN 6 (fun _ => none), (ad2, .inr (0, [.null, .null, .null, .int (iI 0), .int (iI 0)]))]) A9 s9.heap _ _ := hw
  refine lv_dup Ex Eb dX3_init_17 rfl ?_
  refine lo_callIN (q0 := 2) (rest := [.ref ad2, .ref h]) E hK hw hV (kX0_init l X kS ad2 ) ⟨va_cnB 0 E.2.2.2.2 gX3_init_X0_init_n19 rfl rfl rfl (hV.2.2.2 _ (List.mem_of_getElem? (i := 0) rfl)) hiiRX0 (by decide +kernel) ⟨Nat.le_of_ble_eq_true rfl, Nat.le_of_ble_eq_true rfl⟩, rfl, himX0_init⟩ rfl hl.1 rfl rfl (Nat.le_of_ble_eq_true rfl) dX3_init_18 ⟨Nat.le_of_ble_eq_true rfl, Nat.le_of_ble_eq_true rfl⟩ (fun e1 nw H locs hq hw => ?_)
  obtain ⟨k13, k24, k35, rfl, rfl⟩ := hq
  have hw : lo_Wd X ([(h, .inr (3, [.ref ad1, .null, .int (iI 0)])), arZ ad1 X.cN 6 (fun _ => none), oX0 ad2 k13 k24 k35 0 0, arI X k13 20 (fun _ => 0), arI X k24 20 (fun _ => 0), arI X k35 20 (fun _ => 0)]) A9 s9.heap _ _ := hw
  refine W.eq (g2 := F0 m9 21 ls [.ref ad2, .ref h]) rfl ?_
  refine lo_putF E hK hw huRX3 tyX3 tyX3_ok nmX3 1 hf20 rfl 0 rfl rfl (by decide) rfl hin9 rfl rfl rfl rfl (Nat.le_of_ble_eq_true rfl) (ws' := [oX3 h ad1 ad2 0, arZ ad1 X.cN 6 (fun _ => none), oX0 ad2 k13 k24 k35 0 0, arI X k13 20 (fun _ => 0), arI X k24 20 (fun _ => 0), arI X k35 20 (fun _ => 0)]) rfl dX3_init_21 (fun H locs hw => ?_)
  refine lv_aload_n Ex Eb dX3_init_24 rfl (lv_at hl 0 rfl) ?_
  refine lv_iconst (v := iI 0) Ex Eb dX3_init_25 rfl ?_
  refine lo_put E hK hw huRX3 tyX3 tyX3_ok nmX3 2 hf24 rfl 0 rfl rfl (by decide) rfl rfl rfl rfl (Nat.le_of_ble_eq_true rfl) (ws' := [oX3 h ad1 ad2 0, arZ ad1 X.cN 6 (fun _ => none), oX0 ad2 k13 k24 k35 0 0, arI X k13 20 (fun _ => 0), arI X k24 20 (fun _ => 0), arI X k35 20 (fun _ => 0)]) rfl dX3_init_26 (fun H locs hw => ?_)
  refine lv_iconst (v := iI 0) Ex Eb dX3_init_29 rfl ?_
  refine lv_istore_n (lv' := [(1, .int (iI 0)), (0, .ref h)]) Ex Eb dX3_init_30 rfl hl (by decide) rfl (fun ls hl => ?_)
  refine lv_iload_n Ex Eb dX3_init_31 rfl (lv_at hl 0 rfl) ?_
  refine lv_bipush (v := iI 6) Ex Eb dX3_init_32 rfl ?_
  refine lo_icmp_ge (tgt := 56) E dX3_init_34 (by decide) (by omega) (by omega) (fun c6 => ?_) (fun c6 => ?_)
  · exact absurd c6 (by omega)
  · skip
    refine lv_aload_n Ex Eb dX3_init_37 rfl (lv_at hl 1 rfl) ?_
    refine lo_get E hK hw huRX3 0 hf11 rfl 0 rfl rfl (by decide) (v := .ref ad1) rfl dX3_init_38 ?_
    refine lv_iload_n Ex Eb dX3_init_41 rfl (lv_at hl 0 rfl) ?_
    refine lo_newO E hK hw huRX2 tyX2 tyX2_ok hcl9 hinRX2 hiiRX2 (ci := 2) rfl (fs := [.int (iI 0), .int (iI 0), .int (iI 0), .int (iI 0), .int (iI 0), .int (iI 0), .int (iI 0), .int (iI 0), .int (iI 0), .int (iI 0)]) (fun j hj => match j, hj with | 0, _ => rfl | 1, _ => rfl | 2, _ => rfl | 3, _ => rfl | 4, _ => rfl | 5, _ => rfl | 6, _ => rfl | 7, _ => rfl | 8, _ => rfl | 9, _ => rfl | j + 10, h => absurd h (by omega)) (Nat.le_of_ble_eq_true rfl) (Nat.le_of_ble_eq_true rfl) dX3_init_42 (fun ad7 H hw => ?_)
    have hw : lo_Wd X ([oX3 h ad1 ad2 0, arZ ad1 X.cN 6 (fun _ => none), oX0 ad2 k13 k24 k35 0 0, arI X k13 20 (fun _ => 0), arI X k24 20 (fun _ => 0), arI X k35 20 (fun _ => 0), oX2 ad7 0 0 0 0 0 0 0 0 0 0]) A9 s9.heap _ _ := hw
    refine lv_dup Ex Eb dX3_init_45 rfl ?_
    refine lo_callIN (q0 := 6) (rest := [.ref ad7, .int (iI 0), .ref ad1]) E hK hw hV (kX2_init l X kS ad7 ) ⟨va_cnB 0 E.2.2.2.2 gX3_init_X2_init_n28 rfl rfl rfl (hV.2.2.2 _ (List.mem_of_getElem? (i := 1) rfl)) hiiRX2 (by decide +kernel) ⟨Nat.le_of_ble_eq_true rfl, Nat.le_of_ble_eq_true rfl⟩, rfl, himX2_init⟩ rfl hl.1 rfl rfl (Nat.le_of_ble_eq_true rfl) dX3_init_46 ⟨Nat.le_of_ble_eq_true rfl, Nat.le_of_ble_eq_true rfl⟩ (fun e1 nw H locs hq hw => ?_)
    obtain ⟨rfl, rfl⟩ := hq
    have hw : lo_Wd X ([oX3 h ad1 ad2 0, arZ ad1 X.cN 6 (fun _ => none), oX0 ad2 k13 k24 k35 0 0, arI X k13 20 (fun _ => 0), arI X k24 20 (fun _ => 0), arI X k35 20 (fun _ => 0), oX2 ad7 0 0 0 0 0 0 0 0 0 0]) A9 s9.heap _ _ := hw
    refine W.eq (g2 := F0 m9 49 ls [.ref ad7, .int (iI 0), .ref ad1]) rfl ?_
    refine lo_astQ E hK hw 2 2 rfl rfl 1 6 rfl rfl (by omega) (ws' := [oX3 h ad1 ad2 0, arZ ad1 X.cN 6 (va_up (fun _ => none) 0 (some ad7)), oX0 ad2 k13 k24 k35 0 0, arI X k13 20 (fun _ => 0), arI X k24 20 (fun _ => 0), arI X k35 20 (fun _ => 0), oX2 ad7 0 0 0 0 0 0 0 0 0 0]) rfl dX3_init_49 (fun H locs hw => ?_)
    refine lo_iinc (lv' := [(1, .int (iI (0 + 1))), (0, .ref h)]) E dX3_init_50 hl (k := 0) rfl (by decide) rfl (fun ls hl => ?_)
    refine lv_goto (tgt := 31) Ex Eb dX3_init_53 (by decide) ?_
    refine lv_iload_n Ex Eb dX3_init_31 rfl (lv_at hl 0 rfl) ?_
    refine lv_bipush (v := iI 6) Ex Eb dX3_init_32 rfl ?_
    refine lo_icmp_ge (tgt := 56) E dX3_init_34 (by decide) (by omega) (by omega) (fun c8 => ?_) (fun c8 => ?_)
    · exact absurd c8 (by omega)
    · skip
      refine lv_aload_n Ex Eb dX3_init_37 rfl (lv_at hl 1 rfl) ?_
      refine lo_get E hK hw huRX3 0 hf11 rfl 0 rfl rfl (by decide) (v := .ref ad1) rfl dX3_init_38 ?_
      refine lv_iload_n Ex Eb dX3_init_41 rfl (lv_at hl 0 rfl) ?_
      refine lo_newO E hK hw huRX2 tyX2 tyX2_ok hcl9 hinRX2 hiiRX2 (ci := 2) rfl (fs := [.int (iI 0), .int (iI 0), .int (iI 0), .int (iI 0), .int (iI 0), .int (iI 0), .int (iI 0), .int (iI 0), .int (iI 0), .int (iI 0)]) (fun j hj => match j, hj with | 0, _ => rfl | 1, _ => rfl | 2, _ => rfl | 3, _ => rfl | 4, _ => rfl | 5, _ => rfl | 6, _ => rfl | 7, _ => rfl | 8, _ => rfl | 9, _ => rfl | j + 10, h => absurd h (by omega)) (Nat.le_of_ble_eq_true rfl) (Nat.le_of_ble_eq_true rfl) dX3_init_42 (fun ad9 H hw => ?_)
      have hw : lo_Wd X ([oX3 h ad1 ad2 0, arZ ad1 X.cN 6 (va_up (fun _ => none) 0 (some ad7)), oX0 ad2 k13 k24 k35 0 0, arI X k13 20 (fun _ => 0), arI X k24 20 (fun _ => 0), arI X k35 20 (fun _ => 0), oX2 ad7 0 0 0 0 0 0 0 0 0 0, oX2 ad9 0 0 0 0 0 0 0 0 0 0]) A9 s9.heap _ _ := hw
      refine lv_dup Ex Eb dX3_init_45 rfl ?_
      refine lo_callIN (q0 := 7) (rest := [.ref ad9, .int (iI (0 + 1)), .ref ad1]) E hK hw hV (kX2_init l X kS ad9 ) ⟨va_cnB 0 E.2.2.2.2 gX3_init_X2_init_n28 rfl rfl rfl (hV.2.2.2 _ (List.mem_of_getElem? (i := 1) rfl)) hiiRX2 (by decide +kernel) ⟨Nat.le_of_ble_eq_true rfl, Nat.le_of_ble_eq_true rfl⟩, rfl, himX2_init⟩ rfl hl.1 rfl rfl (Nat.le_of_ble_eq_true rfl) dX3_init_46 ⟨Nat.le_of_ble_eq_true rfl, Nat.le_of_ble_eq_true rfl⟩ (fun e1 nw H locs hq hw => ?_)
      obtain ⟨rfl, rfl⟩ := hq
      have hw : lo_Wd X ([oX3 h ad1 ad2 0, arZ ad1 X.cN 6 (va_up (fun _ => none) 0 (some ad7)), oX0 ad2 k13 k24 k35 0 0, arI X k13 20 (fun _ => 0), arI X k24 20 (fun _ => 0), arI X k35 20 (fun _ => 0), oX2 ad7 0 0 0 0 0 0 0 0 0 0, oX2 ad9 0 0 0 0 0 0 0 0 0 0]) A9 s9.heap _ _ := hw
      refine W.eq (g2 := F0 m9 49 ls [.ref ad9, .int (iI (0 + 1)), .ref ad1]) rfl ?_
      refine lo_astQ E hK hw 2 2 rfl rfl 1 7 rfl rfl (by omega) (ws' := [oX3 h ad1 ad2 0, arZ ad1 X.cN 6 (va_up (va_up (fun _ => none) 0 (some ad7)) 1 (some ad9)), oX0 ad2 k13 k24 k35 0 0, arI X k13 20 (fun _ => 0), arI X k24 20 (fun _ => 0), arI X k35 20 (fun _ => 0), oX2 ad7 0 0 0 0 0 0 0 0 0 0, oX2 ad9 0 0 0 0 0 0 0 0 0 0]) rfl dX3_init_49 (fun H locs hw => ?_)
      refine lo_iinc (lv' := [(1, .int (iI ((0 + 1) + 1))), (0, .ref h)]) E dX3_init_50 hl (k := 0) rfl (by decide) rfl (fun ls hl => ?_)
      refine lv_goto (tgt := 31) Ex Eb dX3_init_53 (by decide) ?_
      refine lv_iload_n Ex Eb dX3_init_31 rfl (lv_at hl 0 rfl) ?_
      refine lv_bipush (v := iI 6) Ex Eb dX3_init_32 rfl ?_
      refine lo_icmp_ge (tgt := 56) E dX3_init_34 (by decide) (by omega) (by omega) (fun c10 => ?_) (fun c10 => ?_)
      · exact absurd c10 (by omega)
      · skip
        refine lv_aload_n Ex Eb dX3_init_37 rfl (lv_at hl 1 rfl) ?_
        refine lo_get E hK hw huRX3 0 hf11 rfl 0 rfl rfl (by decide) (v := .ref ad1) rfl dX3_init_38 ?_
        refine lv_iload_n Ex Eb dX3_init_41 rfl (lv_at hl 0 rfl) ?_
        refine lo_newO E hK hw huRX2 tyX2 tyX2_ok hcl9 hinRX2 hiiRX2 (ci := 2) rfl (fs := [.int (iI 0), .int (iI 0), .int (iI 0), .int (iI 0), .int (iI 0), .int (iI 0), .int (iI 0), .int (iI 0), .int (iI 0), .int (iI 0)]) (fun j hj => match j, hj with | 0, _ => rfl | 1, _ => rfl | 2, _ => rfl | 3, _ => rfl | 4, _ => rfl | 5, _ => rfl | 6, _ => rfl | 7, _ => rfl | 8, _ => rfl | 9, _ => rfl | j + 10, h => absurd h (by omega)) (Nat.le_of_ble_eq_true rfl) (Nat.le_of_ble_eq_true rfl) dX3_init_42 (fun ad11 H hw => ?_)
        have hw : lo_Wd X ([oX3 h ad1 ad2 0, arZ ad1 X.cN 6 (va_up (va_up (fun _ => none) 0 (some ad7)) 1 (some ad9)), oX0 ad2 k13 k24 k35 0 0, arI X k13 20 (fun _ => 0), arI X k24 20 (fun _ => 0), arI X k35 20 (fun _ => 0), oX2 ad7 0 0 0 0 0 0 0 0 0 0, oX2 ad9 0 0 0 0 0 0 0 0 0 0, oX2 ad11 0 0 0 0 0 0 0 0 0 0]) A9 s9.heap _ _ := hw
        refine lv_dup Ex Eb dX3_init_45 rfl ?_
        refine lo_callIN (q0 := 8) (rest := [.ref ad11, .int (iI ((0 + 1) + 1)), .ref ad1]) E hK hw hV (kX2_init l X kS ad11 ) ⟨va_cnB 0 E.2.2.2.2 gX3_init_X2_init_n28 rfl rfl rfl (hV.2.2.2 _ (List.mem_of_getElem? (i := 1) rfl)) hiiRX2 (by decide +kernel) ⟨Nat.le_of_ble_eq_true rfl, Nat.le_of_ble_eq_true rfl⟩, rfl, himX2_init⟩ rfl hl.1 rfl rfl (Nat.le_of_ble_eq_true rfl) dX3_init_46 ⟨Nat.le_of_ble_eq_true rfl, Nat.le_of_ble_eq_true rfl⟩ (fun e1 nw H locs hq hw => ?_)
        obtain ⟨rfl, rfl⟩ := hq
        have hw : lo_Wd X ([oX3 h ad1 ad2 0, arZ ad1 X.cN 6 (va_up (va_up (fun _ => none) 0 (some ad7)) 1 (some ad9)), oX0 ad2 k13 k24 k35 0 0, arI X k13 20 (fun _ => 0), arI X k24 20 (fun _ => 0), arI X k35 20 (fun _ => 0), oX2 ad7 0 0 0 0 0 0 0 0 0 0, oX2 ad9 0 0 0 0 0 0 0 0 0 0, oX2 ad11 0 0 0 0 0 0 0 0 0 0]) A9 s9.heap _ _ := hw
        refine W.eq (g2 := F0 m9 49 ls [.ref ad11, .int (iI ((0 + 1) + 1)), .ref ad1]) rfl ?_
        refine lo_astQ E hK hw 2 2 rfl rfl 1 8 rfl rfl (by omega) (ws' := [oX3 h ad1 ad2 0, arZ ad1 X.cN 6 (va_up (va_up (va_up (fun _ => none) 0 (some ad7)) 1 (some ad9)) 2 (some ad11)), oX0 ad2 k13 k24 k35 0 0, arI X k13 20 (fun _ => 0), arI X k24 20 (fun _ => 0), arI X k35 20 (fun _ => 0), oX2 ad7 0 0 0 0 0 0 0 0 0 0, oX2 ad9 0 0 0 0 0 0 0 0 0 0, oX2 ad11 0 0 0 0 0 0 0 0 0 0]) rfl dX3_init_49 (fun H locs hw => ?_)
        refine lo_iinc (lv' := [(1, .int (iI (((0 + 1) + 1) + 1))), (0, .ref h)]) E dX3_init_50 hl (k := 0) rfl (by decide) rfl (fun ls hl => ?_)
        refine lv_goto (tgt := 31) Ex Eb dX3_init_53 (by decide) ?_
        refine lv_iload_n Ex Eb dX3_init_31 rfl (lv_at hl 0 rfl) ?_
        refine lv_bipush (v := iI 6) Ex Eb dX3_init_32 rfl ?_
        refine lo_icmp_ge (tgt := 56) E dX3_init_34 (by decide) (by omega) (by omega) (fun c12 => ?_) (fun c12 => ?_)
        · exact absurd c12 (by omega)
        · skip
          refine lv_aload_n Ex Eb dX3_init_37 rfl (lv_at hl 1 rfl) ?_
          refine lo_get E hK hw huRX3 0 hf11 rfl 0 rfl rfl (by decide) (v := .ref ad1) rfl dX3_init_38 ?_
          refine lv_iload_n Ex Eb dX3_init_41 rfl (lv_at hl 0 rfl) ?_
          refine lo_newO E hK hw huRX2 tyX2 tyX2_ok hcl9 hinRX2 hiiRX2 (ci := 2) rfl (fs := [.int (iI 0), .int (iI 0), .int (iI 0), .int (iI 0), .int (iI 0), .int (iI 0), .int (iI 0), .int (iI 0), .int (iI 0), .int (iI 0)]) (fun j hj => match j, hj with | 0, _ => rfl | 1, _ => rfl | 2, _ => rfl | 3, _ => rfl | 4, _ => rfl | 5, _ => rfl | 6, _ => rfl | 7, _ => rfl | 8, _ => rfl | 9, _ => rfl | j + 10, h => absurd h (by omega)) (Nat.le_of_ble_eq_true rfl) (Nat.le_of_ble_eq_true rfl) dX3_init_42 (fun ad13 H hw => ?_)
          have hw : lo_Wd X ([oX3 h ad1 ad2 0, arZ ad1 X.cN 6 (va_up (va_up (va_up (fun _ => none) 0 (some ad7)) 1 (some ad9)) 2 (some ad11)), oX0 ad2 k13 k24 k35 0 0, arI X k13 20 (fun _ => 0), arI X k24 20 (fun _ => 0), arI X k35 20 (fun _ => 0), oX2 ad7 0 0 0 0 0 0 0 0 0 0, oX2 ad9 0 0 0 0 0 0 0 0 0 0, oX2 ad11 0 0 0 0 0 0 0 0 0 0, oX2 ad13 0 0 0 0 0 0 0 0 0 0]) A9 s9.heap _ _ := hw
          refine lv_dup Ex Eb dX3_init_45 rfl ?_
          refine lo_callIN (q0 := 9) (rest := [.ref ad13, .int (iI (((0 + 1) + 1) + 1)), .ref ad1]) E hK hw hV (kX2_init l X kS ad13 ) ⟨va_cnB 0 E.2.2.2.2 gX3_init_X2_init_n28 rfl rfl rfl (hV.2.2.2 _ (List.mem_of_getElem? (i := 1) rfl)) hiiRX2 (by decide +kernel) ⟨Nat.le_of_ble_eq_true rfl, Nat.le_of_ble_eq_true rfl⟩, rfl, himX2_init⟩ rfl hl.1 rfl rfl (Nat.le_of_ble_eq_true rfl) dX3_init_46 ⟨Nat.le_of_ble_eq_true rfl, Nat.le_of_ble_eq_true rfl⟩ (fun e1 nw H locs hq hw => ?_)
          obtain ⟨rfl, rfl⟩ := hq
          have hw : lo_Wd X ([oX3 h ad1 ad2 0, arZ ad1 X.cN 6 (va_up (va_up (va_up (fun _ => none) 0 (some ad7)) 1 (some ad9)) 2 (some ad11)), oX0 ad2 k13 k24 k35 0 0, arI X k13 20 (fun _ => 0), arI X k24 20 (fun _ => 0), arI X k35 20 (fun _ => 0), oX2 ad7 0 0 0 0 0 0 0 0 0 0, oX2 ad9 0 0 0 0 0 0 0 0 0 0, oX2 ad11 0 0 0 0 0 0 0 0 0 0, oX2 ad13 0 0 0 0 0 0 0 0 0 0]) A9 s9.heap _ _ := hw
          refine W.eq (g2 := F0 m9 49 ls [.ref ad13, .int (iI (((0 + 1) + 1) + 1)), .ref ad1]) rfl ?_
          refine lo_astQ E hK hw 2 2 rfl rfl 1 9 rfl rfl (by omega) (ws' := [oX3 h ad1 ad2 0, arZ ad1 X.cN 6 (va_up (va_up (va_up (va_up (fun _ => none) 0 (some ad7)) 1 (some ad9)) 2 (some ad11)) 3 (some ad13)), oX0 ad2 k13 k24 k35 0 0, arI X k13 20 (fun _ => 0), arI X k24 20 (fun _ => 0), arI X k35 20 (fun _ => 0), oX2 ad7 0 0 0 0 0 0 0 0 0 0, oX2 ad9 0 0 0 0 0 0 0 0 0 0, oX2 ad11 0 0 0 0 0 0 0 0 0 0, oX2 ad13 0 0 0 0 0 0 0 0 0 0]) rfl dX3_init_49 (fun H locs hw => ?_)
          refine lo_iinc (lv' := [(1, .int (iI ((((0 + 1) + 1) + 1) + 1))), (0, .ref h)]) E dX3_init_50 hl (k := 0) rfl (by decide) rfl (fun ls hl => ?_)
          refine lv_goto (tgt := 31) Ex Eb dX3_init_53 (by decide) ?_
          refine lv_iload_n Ex Eb dX3_init_31 rfl (lv_at hl 0 rfl) ?_
          refine lv_bipush (v := iI 6) Ex Eb dX3_init_32 rfl ?_
          refine lo_icmp_ge (tgt := 56) E dX3_init_34 (by decide) (by omega) (by omega) (fun c14 => ?_) (fun c14 => ?_)
          · exact absurd c14 (by omega)
          · skip
            refine lv_aload_n Ex Eb dX3_init_37 rfl (lv_at hl 1 rfl) ?_
            refine lo_get E hK hw huRX3 0 hf11 rfl 0 rfl rfl (by decide) (v := .ref ad1) rfl dX3_init_38 ?_
            refine lv_iload_n Ex Eb dX3_init_41 rfl (lv_at hl 0 rfl) ?_
            refine lo_newO E hK hw huRX2 tyX2 tyX2_ok hcl9 hinRX2 hiiRX2 (ci := 2) rfl (fs := [.int (iI 0), .int (iI 0), .int (iI 0), .int (iI 0), .int (iI 0), .int (iI 0), .int (iI 0), .int (iI 0), .int (iI 0), .int (iI 0)]) (fun j hj => match j, hj with | 0, _ => rfl | 1, _ => rfl | 2, _ => rfl | 3, _ => rfl | 4, _ => rfl | 5, _ => rfl | 6, _ => rfl | 7, _ => rfl | 8, _ => rfl | 9, _ => rfl | j + 10, h => absurd h (by omega)) (Nat.le_of_ble_eq_true rfl) (Nat.le_of_ble_eq_true rfl) dX3_init_42 (fun ad15 H hw => ?_)
            have hw : lo_Wd X ([oX3 h ad1 ad2 0, arZ ad1 X.cN 6 (va_up (va_up (va_up (va_up (fun _ => none) 0 (some ad7)) 1 (some ad9)) 2 (some ad11)) 3 (some ad13)), oX0 ad2 k13 k24 k35 0 0, arI X k13 20 (fun _ => 0), arI X k24 20 (fun _ => 0), arI X k35 20 (fun _ => 0), oX2 ad7 0 0 0 0 0 0 0 0 0 0, oX2 ad9 0 0 0 0 0 0 0 0 0 0, oX2 ad11 0 0 0 0 0 0 0 0 0 0, oX2 ad13 0 0 0 0 0 0 0 0 0 0, oX2 ad15 0 0 0 0 0 0 0 0 0 0]) A9 s9.heap _ _ := hw
            refine lv_dup Ex Eb dX3_init_45 rfl ?_
            refine lo_callIN (q0 := 10) (rest := [.ref ad15, .int (iI ((((0 + 1) + 1) + 1) + 1)), .ref ad1]) E hK hw hV (kX2_init l X kS ad15 ) ⟨va_cnB 0 E.2.2.2.2 gX3_init_X2_init_n28 rfl rfl rfl (hV.2.2.2 _ (List.mem_of_getElem? (i := 1) rfl)) hiiRX2 (by decide +kernel) ⟨Nat.le_of_ble_eq_true rfl, Nat.le_of_ble_eq_true rfl⟩, rfl, himX2_init⟩ rfl hl.1 rfl rfl (Nat.le_of_ble_eq_true rfl) dX3_init_46 ⟨Nat.le_of_ble_eq_true rfl, Nat.le_of_ble_eq_true rfl⟩ (fun e1 nw H locs hq hw => ?_)
            obtain ⟨rfl, rfl⟩ := hq
            have hw : lo_Wd X ([oX3 h ad1 ad2 0, arZ ad1 X.cN 6 (va_up (va_up (va_up (va_up (fun _ => none) 0 (some ad7)) 1 (some ad9)) 2 (some ad11)) 3 (some ad13)), oX0 ad2 k13 k24 k35 0 0, arI X k13 20 (fun _ => 0), arI X k24 20 (fun _ => 0), arI X k35 20 (fun _ => 0), oX2 ad7 0 0 0 0 0 0 0 0 0 0, oX2 ad9 0 0 0 0 0 0 0 0 0 0, oX2 ad11 0 0 0 0 0 0 0 0 0 0, oX2 ad13 0 0 0 0 0 0 0 0 0 0, oX2 ad15 0 0 0 0 0 0 0 0 0 0]) A9 s9.heap _ _ := hw
            refine W.eq (g2 := F0 m9 49 ls [.ref ad15, .int (iI ((((0 + 1) + 1) + 1) + 1)), .ref ad1]) rfl ?_
            refine lo_astQ E hK hw 2 2 rfl rfl 1 10 rfl rfl (by omega) (ws' := [oX3 h ad1 ad2 0, arZ ad1 X.cN 6 (va_up (va_up (va_up (va_up (va_up (fun _ => none) 0 (some ad7)) 1 (some ad9)) 2 (some ad11)) 3 (some ad13)) 4 (some ad15)), oX0 ad2 k13 k24 k35 0 0, arI X k13 20 (fun _ => 0), arI X k24 20 (fun _ => 0), arI X k35 20 (fun _ => 0), oX2 ad7 0 0 0 0 0 0 0 0 0 0, oX2 ad9 0 0 0 0 0 0 0 0 0 0, oX2 ad11 0 0 0 0 0 0 0 0 0 0, oX2 ad13 0 0 0 0 0 0 0 0 0 0, oX2 ad15 0 0 0 0 0 0 0 0 0 0]) rfl dX3_init_49 (fun H locs hw => ?_)
            refine lo_iinc (lv' := [(1, .int (iI (((((0 + 1) + 1) + 1) + 1) + 1))), (0, .ref h)]) E dX3_init_50 hl (k := 0) rfl (by decide) rfl (fun ls hl => ?_)
            refine lv_goto (tgt := 31) Ex Eb dX3_init_53 (by decide) ?_
            refine lv_iload_n Ex Eb dX3_init_31 rfl (lv_at hl 0 rfl) ?_
            refine lv_bipush (v := iI 6) Ex Eb dX3_init_32 rfl ?_
            refine lo_icmp_ge (tgt := 56) E dX3_init_34 (by decide) (by omega) (by omega) (fun c16 => ?_) (fun c16 => ?_)
            · exact absurd c16 (by omega)
            · skip
              refine lv_aload_n Ex Eb dX3_init_37 rfl (lv_at hl 1 rfl) ?_
              refine lo_get E hK hw huRX3 0 hf11 rfl 0 rfl rfl (by decide) (v := .ref ad1) rfl dX3_init_38 ?_
              refine lv_iload_n Ex Eb dX3_init_41 rfl (lv_at hl 0 rfl) ?_
              refine lo_newO E hK hw huRX2 tyX2 tyX2_ok hcl9 hinRX2 hiiRX2 (ci := 2) rfl (fs := [.int (iI 0), .int (iI 0), .int (iI 0), .int (iI 0), .int (iI 0), .int (iI 0), .int (iI 0), .int (iI 0), .int (iI 0), .int (iI 0)]) (fun j hj => match j, hj with | 0, _ => rfl | 1, _ => rfl | 2, _ => rfl | 3, _ => rfl | 4, _ => rfl | 5, _ => rfl | 6, _ => rfl | 7, _ => rfl | 8, _ => rfl | 9, _ => rfl | j + 10, h => absurd h (by omega)) (Nat.le_of_ble_eq_true rfl) (Nat.le_of_ble_eq_true rfl) dX3_init_42 (fun ad17 H hw => ?_)
              have hw : lo_Wd X ([oX3 h ad1 ad2 0, arZ ad1 X.cN 6 (va_up (va_up (va_up (va_up (va_up (fun _ => none) 0 (some ad7)) 1 (some ad9)) 2 (some ad11)) 3 (some ad13)) 4 (some ad15)), oX0 ad2 k13 k24 k35 0 0, arI X k13 20 (fun _ => 0), arI X k24 20 (fun _ => 0), arI X k35 20 (fun _ => 0), oX2 ad7 0 0 0 0 0 0 0 0 0 0, oX2 ad9 0 0 0 0 0 0 0 0 0 0, oX2 ad11 0 0 0 0 0 0 0 0 0 0, oX2 ad13 0 0 0 0 0 0 0 0 0 0, oX2 ad15 0 0 0 0 0 0 0 0 0 0, oX2 ad17 0 0 0 0 0 0 0 0 0 0]) A9 s9.heap _ _ := hw
              refine lv_dup Ex Eb dX3_init_45 rfl ?_
              refine lo_callIN (q0 := 11) (rest := [.ref ad17, .int (iI (((((0 + 1) + 1) + 1) + 1) + 1)), .ref ad1]) E hK hw hV (kX2_init l X kS ad17 ) ⟨va_cnB 0 E.2.2.2.2 gX3_init_X2_init_n28 rfl rfl rfl (hV.2.2.2 _ (List.mem_of_getElem? (i := 1) rfl)) hiiRX2 (by decide +kernel) ⟨Nat.le_of_ble_eq_true rfl, Nat.le_of_ble_eq_true rfl⟩, rfl, himX2_init⟩ rfl hl.1 rfl rfl (Nat.le_of_ble_eq_true rfl) dX3_init_46 ⟨Nat.le_of_ble_eq_true rfl, Nat.le_of_ble_eq_true rfl⟩ (fun e1 nw H locs hq hw => ?_)
              obtain ⟨rfl, rfl⟩ := hq
              have hw : lo_Wd X ([oX3 h ad1 ad2 0, arZ ad1 X.cN 6 (va_up (va_up (va_up (va_up (va_up (fun _ => none) 0 (some ad7)) 1 (some ad9)) 2 (some ad11)) 3 (some ad13)) 4 (some ad15)), oX0 ad2 k13 k24 k35 0 0, arI X k13 20 (fun _ => 0), arI X k24 20 (fun _ => 0), arI X k35 20 (fun _ => 0), oX2 ad7 0 0 0 0 0 0 0 0 0 0, oX2 ad9 0 0 0 0 0 0 0 0 0 0, oX2 ad11 0 0 0 0 0 0 0 0 0 0, oX2 ad13 0 0 0 0 0 0 0 0 0 0, oX2 ad15 0 0 0 0 0 0 0 0 0 0, oX2 ad17 0 0 0 0 0 0 0 0 0 0]) A9 s9.heap _ _ := hw
              refine W.eq (g2 := F0 m9 49 ls [.ref ad17, .int (iI (((((0 + 1) + 1) + 1) + 1) + 1)), .ref ad1]) rfl ?_
              refine lo_astQ E hK hw 2 2 rfl rfl 1 11 rfl rfl (by omega) (ws' := [oX3 h ad1 ad2 0, arZ ad1 X.cN 6 (va_up (va_up (va_up (va_up (va_up (va_up (fun _ => none) 0 (some ad7)) 1 (some ad9)) 2 (some ad11)) 3 (some ad13)) 4 (some ad15)) 5 (some ad17)), oX0 ad2 k13 k24 k35 0 0, arI X k13 20 (fun _ => 0), arI X k24 20 (fun _ => 0), arI X k35 20 (fun _ => 0), oX2 ad7 0 0 0 0 0 0 0 0 0 0, oX2 ad9 0 0 0 0 0 0 0 0 0 0, oX2 ad11 0 0 0 0 0 0 0 0 0 0, oX2 ad13 0 0 0 0 0 0 0 0 0 0, oX2 ad15 0 0 0 0 0 0 0 0 0 0, oX2 ad17 0 0 0 0 0 0 0 0 0 0]) rfl dX3_init_49 (fun H locs hw => ?_)
              refine lo_iinc (lv' := [(1, .int (iI ((((((0 + 1) + 1) + 1) + 1) + 1) + 1))), (0, .ref h)]) E dX3_init_50 hl (k := 0) rfl (by decide) rfl (fun ls hl => ?_)
              refine lv_goto (tgt := 31) Ex Eb dX3_init_53 (by decide) ?_
              refine lv_iload_n Ex Eb dX3_init_31 rfl (lv_at hl 0 rfl) ?_
              refine lv_bipush (v := iI 6) Ex Eb dX3_init_32 rfl ?_
              refine lo_icmp_ge (tgt := 56) E dX3_init_34 (by decide) (by omega) (by omega) (fun c18 => ?_) (fun c18 => ?_)
              · skip
                have hw := lo_Wd_extQ (q0 := 1) (g := fun j => some (pk6 ad7 ad9 ad11 ad13 ad15 ad17 j)) (ws' := [oX3 h ad1 ad2 0, arN X ad1 6 (pk6 ad7 ad9 ad11 ad13 ad15 ad17), oX0 ad2 k13 k24 k35 0 0, arI X k13 20 (fun _ => 0), arI X k24 20 (fun _ => 0), arI X k35 20 (fun _ => 0), oX2 ad7 0 0 0 0 0 0 0 0 0 0, oX2 ad9 0 0 0 0 0 0 0 0 0 0, oX2 ad11 0 0 0 0 0 0 0 0 0 0, oX2 ad13 0 0 0 0 0 0 0 0 0 0, oX2 ad15 0 0 0 0 0 0 0 0 0 0, oX2 ad17 0 0 0 0 0 0 0 0 0 0]) hw rfl (fun j hj => match j, hj with | 0, _ => rfl | 1, _ => rfl | 2, _ => rfl | 3, _ => rfl | 4, _ => rfl | 5, _ => rfl | j + 6, h => absurd h (by omega)) rfl
                have hw : lo_Wd X ([oX3 h ad1 ad2 0, arN X ad1 6 (pk6 ad7 ad9 ad11 ad13 ad15 ad17), oX0 ad2 k13 k24 k35 0 0, arI X k13 20 (fun _ => 0), arI X k24 20 (fun _ => 0), arI X k35 20 (fun _ => 0), oX2 ad7 0 0 0 0 0 0 0 0 0 0, oX2 ad9 0 0 0 0 0 0 0 0 0 0, oX2 ad11 0 0 0 0 0 0 0 0 0 0, oX2 ad13 0 0 0 0 0 0 0 0 0 0, oX2 ad15 0 0 0 0 0 0 0 0 0 0, oX2 ad17 0 0 0 0 0 0 0 0 0 0]) A9 s9.heap _ _ := hw
                exact lo_vretI E hRt hLk hK hAe (e1 := (oX3 h ad1 ad2 0).2) (nw := [arN X ad1 6 (pk6 ad7 ad9 ad11 ad13 ad15 ad17), oX0 ad2 k13 k24 k35 0 0, arI X k13 20 (fun _ => 0), arI X k24 20 (fun _ => 0), arI X k35 20 (fun _ => 0), oX2 ad7 0 0 0 0 0 0 0 0 0 0, oX2 ad9 0 0 0 0 0 0 0 0 0 0, oX2 ad11 0 0 0 0 0 0 0 0 0 0, oX2 ad13 0 0 0 0 0 0 0 0 0 0, oX2 ad15 0 0 0 0 0 0 0 0 0 0, oX2 ad17 0 0 0 0 0 0 0 0 0 0]) hw dX3_init_56 ⟨(pk6 h ad1 ad2 k13 k24 k35), (pk6 ad7 ad9 ad11 ad13 ad15 ad17), (rfl), rfl, rfl⟩
              · exact absurd c18 (by omega)
