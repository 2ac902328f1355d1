set_option maxHeartbeats 4000000 in
set_option maxRecDepth 100000 in
theorem kX0_write (l : Launch) (X : KX) (k0 k1 k2 k3 : Nat) (nx kp : Int) (g1 g2 g3 : Nat → Int) (lo am it : Int) (hnx : 0 ≤ nx ∧ nx < 20) (hkp : 0 ≤ kp ∧ kp ≤ 20) : CM l X yX0_write wsX0_write ({ frames := 1, cells := 0, slots := 0, locals := 60 }) [.ref k0, .int (iI lo), .int (iI am), .int (iI it)] ([oX0 k0 k1 k2 k3 nx kp, arI X k1 20 g1, arI X k2 20 g2, arI X k3 20 g3]) (fun v9 w9 => v9 = none ∧ w9 = [oX0 k0 k1 k2 k3 ((nx + 1) % 20) (min (kp + 1) 20), arI X k1 20 (uI g1 nx.toNat lo), arI X k2 20 (uI g2 nx.toNat am), arI X k3 20 (uI g3 nx.toNat it)]) 0 0 := by
  refine lo_enter (cc := cX0_write) (maxL := 4) (ret := none) (lv := [(0, .ref k0), (1, .int (iI lo)), (2, .int (iI am)), (3, .int (iI it))]) (by decide) rfl rfl (Nat.le_of_ble_eq_true rfl) ?_
  intro p9 e9 s9 m9 bl9 me9 c9 A9 ls hAe E hRt hLk hK hl hw
  have Ex := E.1
  have Eb := E.2.1
  have huRX0 : ∀ w ∈ u_ws RX0 TX0 5, w ∈ wsX0_write := by decide +kernel
  have hf21 : (Cond.fieldLink RX0 21 "LoanSchedule$Book" "next" "I").before _ s9 = true := E.2.2.2.2 _ (List.mem_of_getElem? (i := 1) rfl)
  have hf9 : (Cond.fieldLink RX0 9 "LoanSchedule$Book" "loans" "[I").before _ s9 = true := E.2.2.2.2 _ (List.mem_of_getElem? (i := 2) rfl)
  have hf15 : (Cond.fieldLink RX0 15 "LoanSchedule$Book" "amounts" "[I").before _ s9 = true := E.2.2.2.2 _ (List.mem_of_getElem? (i := 3) rfl)
  have hf18 : (Cond.fieldLink RX0 18 "LoanSchedule$Book" "interests" "[I").before _ s9 = true := E.2.2.2.2 _ (List.mem_of_getElem? (i := 4) rfl)
  have hf25 : (Cond.fieldLink RX0 25 "LoanSchedule$Book" "kept" "I").before _ s9 = true := E.2.2.2.2 _ (List.mem_of_getElem? (i := 5) rfl)
  have hl34 : (Cond.methodLink RX0 34 Lib.Math.min.name).before _ s9 = true := E.2.2.2.2 _ (List.mem_of_getElem? (i := 6) rfl)
  have hstmin : (Cond.static Lib.Math.min.name).before _ s9 = true := E.2.2.2.2 _ (List.mem_of_getElem? (i := 7) rfl)
  have hmath : (Cond.initialized "java/lang/Math").before _ s9 = true := E.2.2.2.2 _ (List.mem_of_getElem? (i := 8) rfl)
  have hcdmin : (Cond.code Lib.Math.min.name Lib.Math.min.code 2 (some .int)).before _ s9 = true := E.2.2.2.2 _ (List.mem_of_getElem? (i := 9) rfl)
  refine lv_aload_n Ex Eb dX0_write_0 rfl (lv_at hl 0 rfl) ?_
  refine lo_get E hK hw huRX0 3 hf21 rfl 0 rfl rfl (by decide) (v := .int (iI nx)) rfl dX0_write_1 ?_
  refine lo_if_lt (tgt := 16) E dX0_write_4 (by decide) (by omega) (fun c1 => ?_) (fun c1 => ?_)
  · exact absurd c1 (by omega)
  · skip
    refine lv_aload_n Ex Eb dX0_write_7 rfl (lv_at hl 0 rfl) ?_
    refine lo_get E hK hw huRX0 3 hf21 rfl 0 rfl rfl (by decide) (v := .int (iI nx)) rfl dX0_write_8 ?_
    refine lv_bipush (v := iI 20) Ex Eb dX0_write_11 rfl ?_
    refine lo_icmp_lt (tgt := 17) E dX0_write_13 (by decide) (by omega) (by omega) (fun c2 => ?_) (fun c2 => ?_)
    · skip
      refine lv_aload_n Ex Eb dX0_write_17 rfl (lv_at hl 0 rfl) ?_
      refine lo_get E hK hw huRX0 0 hf9 rfl 0 rfl rfl (by decide) (v := .ref k1) rfl dX0_write_18 ?_
      refine lv_aload_n Ex Eb dX0_write_21 rfl (lv_at hl 0 rfl) ?_
      refine lo_get E hK hw huRX0 3 hf21 rfl 0 rfl rfl (by decide) (v := .int (iI nx)) rfl dX0_write_22 ?_
      refine lv_iload_n Ex Eb dX0_write_25 rfl (lv_at hl 1 rfl) ?_
      refine lo_iast E hK hw 1 rfl (by omega) (ws' := [oX0 k0 k1 k2 k3 nx kp, arI X k1 20 (uI g1 nx.toNat lo), arI X k2 20 g2, arI X k3 20 g3]) rfl dX0_write_26 (fun H locs hw => ?_)
      refine lv_aload_n Ex Eb dX0_write_27 rfl (lv_at hl 0 rfl) ?_
      refine lo_get E hK hw huRX0 1 hf15 rfl 0 rfl rfl (by decide) (v := .ref k2) rfl dX0_write_28 ?_
      refine lv_aload_n Ex Eb dX0_write_31 rfl (lv_at hl 0 rfl) ?_
      refine lo_get E hK hw huRX0 3 hf21 rfl 0 rfl rfl (by decide) (v := .int (iI nx)) rfl dX0_write_32 ?_
      refine lv_iload_n Ex Eb dX0_write_35 rfl (lv_at hl 2 rfl) ?_
      refine lo_iast E hK hw 2 rfl (by omega) (ws' := [oX0 k0 k1 k2 k3 nx kp, arI X k1 20 (uI g1 nx.toNat lo), arI X k2 20 (uI g2 nx.toNat am), arI X k3 20 g3]) rfl dX0_write_36 (fun H locs hw => ?_)
      refine lv_aload_n Ex Eb dX0_write_37 rfl (lv_at hl 0 rfl) ?_
      refine lo_get E hK hw huRX0 2 hf18 rfl 0 rfl rfl (by decide) (v := .ref k3) rfl dX0_write_38 ?_
      refine lv_aload_n Ex Eb dX0_write_41 rfl (lv_at hl 0 rfl) ?_
      refine lo_get E hK hw huRX0 3 hf21 rfl 0 rfl rfl (by decide) (v := .int (iI nx)) rfl dX0_write_42 ?_
      refine lv_iload_n Ex Eb dX0_write_45 rfl (lv_at hl 3 rfl) ?_
      refine lo_iast E hK hw 3 rfl (by omega) (ws' := [oX0 k0 k1 k2 k3 nx kp, arI X k1 20 (uI g1 nx.toNat lo), arI X k2 20 (uI g2 nx.toNat am), arI X k3 20 (uI g3 nx.toNat it)]) rfl dX0_write_46 (fun H locs hw => ?_)
      refine lv_aload_n Ex Eb dX0_write_47 rfl (lv_at hl 0 rfl) ?_
      refine lv_aload_n Ex Eb dX0_write_48 rfl (lv_at hl 0 rfl) ?_
      refine lo_get E hK hw huRX0 3 hf21 rfl 0 rfl rfl (by decide) (v := .int (iI nx)) rfl dX0_write_49 ?_
      refine lv_iconst (v := iI 1) Ex Eb dX0_write_52 rfl ?_
      refine lo_iadd E dX0_write_53 ?_
      refine lv_bipush (v := iI 20) Ex Eb dX0_write_54 rfl ?_
      refine lo_icmp_ne (tgt := 63) E dX0_write_56 (by decide) (by omega) (by omega) (fun c3 => ?_) (fun c3 => ?_)
      · skip
        refine lv_aload_n Ex Eb dX0_write_63 rfl (lv_at hl 0 rfl) ?_
        refine lo_get E hK hw huRX0 3 hf21 rfl 0 rfl rfl (by decide) (v := .int (iI nx)) rfl dX0_write_64 ?_
        refine lv_iconst (v := iI 1) Ex Eb dX0_write_67 rfl ?_
        refine lo_iadd E dX0_write_68 ?_
        refine lo_put E hK hw huRX0 tyX0 tyX0_ok nmX0 3 hf21 rfl 0 rfl rfl (by decide) rfl rfl rfl rfl (Nat.le_of_ble_eq_true rfl) (ws' := [oX0 k0 k1 k2 k3 (nx + 1) kp, arI X k1 20 (uI g1 nx.toNat lo), arI X k2 20 (uI g2 nx.toNat am), arI X k3 20 (uI g3 nx.toNat it)]) rfl dX0_write_69 (fun H locs hw => ?_)
        refine lv_aload_n Ex Eb dX0_write_72 rfl (lv_at hl 0 rfl) ?_
        refine lv_aload_n Ex Eb dX0_write_73 rfl (lv_at hl 0 rfl) ?_
        refine lo_get E hK hw huRX0 4 hf25 rfl 0 rfl rfl (by decide) (v := .int (iI kp)) rfl dX0_write_74 ?_
        refine lv_iconst (v := iI 1) Ex Eb dX0_write_77 rfl ?_
        refine lo_iadd E dX0_write_78 ?_
        refine lv_bipush (v := iI 20) Ex Eb dX0_write_79 rfl ?_
        refine lo_mmin E hl.1 hl34 hstmin hmath hcdmin (Nat.le_of_ble_eq_true rfl) (Nat.le_of_ble_eq_true rfl) (Nat.le_of_ble_eq_true rfl) (Nat.le_of_ble_eq_true rfl) (by omega) (by omega) dX0_write_81 ?_
        refine lo_put E hK hw huRX0 tyX0 tyX0_ok nmX0 4 hf25 rfl 0 rfl rfl (by decide) rfl rfl rfl rfl (Nat.le_of_ble_eq_true rfl) (ws' := [oX0 k0 k1 k2 k3 (nx + 1) (min (kp + 1) 20), arI X k1 20 (uI g1 nx.toNat lo), arI X k2 20 (uI g2 nx.toNat am), arI X k3 20 (uI g3 nx.toNat it)]) rfl dX0_write_84 (fun H locs hw => ?_)
        exact lo_vret E hRt hLk hK hAe hw dX0_write_87 rfl ⟨rfl, by first | (rw [show (nx + 1) % 20 = 0 by omega]) | (rw [show (nx + 1) % 20 = nx + 1 by omega])⟩
      · skip
        refine lv_iconst (v := iI 0) Ex Eb dX0_write_59 rfl ?_
        refine lv_goto (tgt := 69) Ex Eb dX0_write_60 (by decide) ?_
        refine lo_put E hK hw huRX0 tyX0 tyX0_ok nmX0 3 hf21 rfl 0 rfl rfl (by decide) rfl rfl rfl rfl (Nat.le_of_ble_eq_true rfl) (ws' := [oX0 k0 k1 k2 k3 0 kp, arI X k1 20 (uI g1 nx.toNat lo), arI X k2 20 (uI g2 nx.toNat am), arI X k3 20 (uI g3 nx.toNat it)]) rfl dX0_write_69 (fun H locs hw => ?_)
        refine lv_aload_n Ex Eb dX0_write_72 rfl (lv_at hl 0 rfl) ?_
        refine lv_aload_n Ex Eb dX0_write_73 rfl (lv_at hl 0 rfl) ?_
        refine lo_get E hK hw huRX0 4 hf25 rfl 0 rfl rfl (by decide) (v := .int (iI kp)) rfl dX0_write_74 ?_
        refine lv_iconst (v := iI 1) Ex Eb dX0_write_77 rfl ?_
        refine lo_iadd E dX0_write_78 ?_
        refine lv_bipush (v := iI 20) Ex Eb dX0_write_79 rfl ?_
        refine lo_mmin E hl.1 hl34 hstmin hmath hcdmin (Nat.le_of_ble_eq_true rfl) (Nat.le_of_ble_eq_true rfl) (Nat.le_of_ble_eq_true rfl) (Nat.le_of_ble_eq_true rfl) (by omega) (by omega) dX0_write_81 ?_
        refine lo_put E hK hw huRX0 tyX0 tyX0_ok nmX0 4 hf25 rfl 0 rfl rfl (by decide) rfl rfl rfl rfl (Nat.le_of_ble_eq_true rfl) (ws' := [oX0 k0 k1 k2 k3 0 (min (kp + 1) 20), arI X k1 20 (uI g1 nx.toNat lo), arI X k2 20 (uI g2 nx.toNat am), arI X k3 20 (uI g3 nx.toNat it)]) rfl dX0_write_84 (fun H locs hw => ?_)
        exact lo_vret E hRt hLk hK hAe hw dX0_write_87 rfl ⟨rfl, by first | (rw [show (nx + 1) % 20 = 0 by omega]) | (rw [show (nx + 1) % 20 = nx + 1 by omega])⟩
    · exact absurd c2 (by omega)
set_option maxHeartbeats 4000000 in
set_option maxRecDepth 100000 in
theorem kX0_copyFrom (l : Launch) (X : KX) (k0 k1 k2 k3 : Nat) (nx kp : Int) (g1 g2 g3 : Nat → Int) (j0 j1 j2 j3 : Nat) (my mp : Int) (f1 f2 f3 : Nat → Int) : CM l X yX0_copyFrom wsX0_copyFrom ({ frames := 1, cells := 0, slots := 0, locals := 60 }) [.ref k0, .ref j0] ([oX0 k0 k1 k2 k3 nx kp, arI X k1 20 g1, arI X k2 20 g2, arI X k3 20 g3, oX0 j0 j1 j2 j3 my mp, arI X j1 20 f1, arI X j2 20 f2, arI X j3 20 f3]) (fun v9 w9 => v9 = none ∧ w9 = [oX0 k0 k1 k2 k3 my mp, arI X k1 20 f1, arI X k2 20 f2, arI X k3 20 f3, oX0 j0 j1 j2 j3 my mp, arI X j1 20 f1, arI X j2 20 f2, arI X j3 20 f3]) 0 0 := by
  refine lo_enter (cc := cX0_copyFrom) (maxL := 2) (ret := none) (lv := [(0, .ref k0), (1, .ref j0)]) (by decide) rfl rfl (Nat.le_of_ble_eq_true rfl) ?_
  intro p9 e9 s9 m9 bl9 me9 c9 A9 ls hAe E hRt hLk hK hl hw
  have Ex := E.1
  have Eb := E.2.1
  have huRX0 : ∀ w ∈ u_ws RX0 TX0 5, w ∈ wsX0_copyFrom := by decide +kernel
  have hf9 : (Cond.fieldLink RX0 9 "LoanSchedule$Book" "loans" "[I").before _ s9 = true := E.2.2.2.2 _ (List.mem_of_getElem? (i := 1) rfl)
  have hl28 : (Cond.methodLink RX0 28 arraycopyName).before _ s9 = true := E.2.2.2.2 _ (List.mem_of_getElem? (i := 2) rfl)
  have hnat : (Cond.native arraycopyName).before _ s9 = true := E.2.2.2.2 _ (List.mem_of_getElem? (i := 3) rfl)
  have hstat : (Cond.static arraycopyName).before _ s9 = true := E.2.2.2.2 _ (List.mem_of_getElem? (i := 4) rfl)
  have hsys : (Cond.initialized "java/lang/System").before _ s9 = true := E.2.2.2.2 _ (List.mem_of_getElem? (i := 5) rfl)
  have hf15 : (Cond.fieldLink RX0 15 "LoanSchedule$Book" "amounts" "[I").before _ s9 = true := E.2.2.2.2 _ (List.mem_of_getElem? (i := 6) rfl)
  have hf18 : (Cond.fieldLink RX0 18 "LoanSchedule$Book" "interests" "[I").before _ s9 = true := E.2.2.2.2 _ (List.mem_of_getElem? (i := 7) rfl)
  have hf21 : (Cond.fieldLink RX0 21 "LoanSchedule$Book" "next" "I").before _ s9 = true := E.2.2.2.2 _ (List.mem_of_getElem? (i := 8) rfl)
  have hf25 : (Cond.fieldLink RX0 25 "LoanSchedule$Book" "kept" "I").before _ s9 = true := E.2.2.2.2 _ (List.mem_of_getElem? (i := 9) rfl)
  refine lv_aload_n Ex Eb dX0_copyFrom_0 rfl (lv_at hl 1 rfl) ?_
  refine lo_get E hK hw huRX0 0 hf9 rfl 4 rfl rfl (by decide) (v := .ref j1) rfl dX0_copyFrom_1 ?_
  refine lv_iconst (v := iI 0) Ex Eb dX0_copyFrom_4 rfl ?_
  refine lv_aload_n Ex Eb dX0_copyFrom_5 rfl (lv_at hl 0 rfl) ?_
  refine lo_get E hK hw huRX0 0 hf9 rfl 0 rfl rfl (by decide) (v := .ref k1) rfl dX0_copyFrom_6 ?_
  refine lv_iconst (v := iI 0) Ex Eb dX0_copyFrom_9 rfl ?_
  refine lv_bipush (v := iI 20) Ex Eb dX0_copyFrom_10 rfl ?_
  refine lo_copyi E hl.1 hl28 hnat hstat hsys hK hw 5 1 rfl rfl (by omega) (ws' := [oX0 k0 k1 k2 k3 nx kp, arI X k1 20 f1, arI X k2 20 g2, arI X k3 20 g3, oX0 j0 j1 j2 j3 my mp, arI X j1 20 f1, arI X j2 20 f2, arI X j3 20 f3]) rfl (Nat.le_of_ble_eq_true rfl) (Nat.le_of_ble_eq_true rfl) dX0_copyFrom_12 (fun H locs hw => ?_)
  refine lv_aload_n Ex Eb dX0_copyFrom_15 rfl (lv_at hl 1 rfl) ?_
  refine lo_get E hK hw huRX0 1 hf15 rfl 4 rfl rfl (by decide) (v := .ref j2) rfl dX0_copyFrom_16 ?_
  refine lv_iconst (v := iI 0) Ex Eb dX0_copyFrom_19 rfl ?_
  refine lv_aload_n Ex Eb dX0_copyFrom_20 rfl (lv_at hl 0 rfl) ?_
  refine lo_get E hK hw huRX0 1 hf15 rfl 0 rfl rfl (by decide) (v := .ref k2) rfl dX0_copyFrom_21 ?_
  refine lv_iconst (v := iI 0) Ex Eb dX0_copyFrom_24 rfl ?_
  refine lv_bipush (v := iI 20) Ex Eb dX0_copyFrom_25 rfl ?_
  refine lo_copyi E hl.1 hl28 hnat hstat hsys hK hw 6 2 rfl rfl (by omega) (ws' := [oX0 k0 k1 k2 k3 nx kp, arI X k1 20 f1, arI X k2 20 f2, arI X k3 20 g3, oX0 j0 j1 j2 j3 my mp, arI X j1 20 f1, arI X j2 20 f2, arI X j3 20 f3]) rfl (Nat.le_of_ble_eq_true rfl) (Nat.le_of_ble_eq_true rfl) dX0_copyFrom_27 (fun H locs hw => ?_)
  refine lv_aload_n Ex Eb dX0_copyFrom_30 rfl (lv_at hl 1 rfl) ?_
  refine lo_get E hK hw huRX0 2 hf18 rfl 4 rfl rfl (by decide) (v := .ref j3) rfl dX0_copyFrom_31 ?_
  refine lv_iconst (v := iI 0) Ex Eb dX0_copyFrom_34 rfl ?_
  refine lv_aload_n Ex Eb dX0_copyFrom_35 rfl (lv_at hl 0 rfl) ?_
  refine lo_get E hK hw huRX0 2 hf18 rfl 0 rfl rfl (by decide) (v := .ref k3) rfl dX0_copyFrom_36 ?_
  refine lv_iconst (v := iI 0) Ex Eb dX0_copyFrom_39 rfl ?_
  refine lv_bipush (v := iI 20) Ex Eb dX0_copyFrom_40 rfl ?_
  refine lo_copyi E hl.1 hl28 hnat hstat hsys hK hw 7 3 rfl rfl (by omega) (ws' := [oX0 k0 k1 k2 k3 nx kp, arI X k1 20 f1, arI X k2 20 f2, arI X k3 20 f3, oX0 j0 j1 j2 j3 my mp, arI X j1 20 f1, arI X j2 20 f2, arI X j3 20 f3]) rfl (Nat.le_of_ble_eq_true rfl) (Nat.le_of_ble_eq_true rfl) dX0_copyFrom_42 (fun H locs hw => ?_)
  refine lv_aload_n Ex Eb dX0_copyFrom_45 rfl (lv_at hl 0 rfl) ?_
  refine lv_aload_n Ex Eb dX0_copyFrom_46 rfl (lv_at hl 1 rfl) ?_
  refine lo_get E hK hw huRX0 3 hf21 rfl 4 rfl rfl (by decide) (v := .int (iI my)) rfl dX0_copyFrom_47 ?_
  refine lo_put E hK hw huRX0 tyX0 tyX0_ok nmX0 3 hf21 rfl 0 rfl rfl (by decide) rfl rfl rfl rfl (Nat.le_of_ble_eq_true rfl) (ws' := [oX0 k0 k1 k2 k3 my kp, arI X k1 20 f1, arI X k2 20 f2, arI X k3 20 f3, oX0 j0 j1 j2 j3 my mp, arI X j1 20 f1, arI X j2 20 f2, arI X j3 20 f3]) rfl dX0_copyFrom_50 (fun H locs hw => ?_)
  refine lv_aload_n Ex Eb dX0_copyFrom_53 rfl (lv_at hl 0 rfl) ?_
  refine lv_aload_n Ex Eb dX0_copyFrom_54 rfl (lv_at hl 1 rfl) ?_
  refine lo_get E hK hw huRX0 4 hf25 rfl 4 rfl rfl (by decide) (v := .int (iI mp)) rfl dX0_copyFrom_55 ?_
  refine lo_put E hK hw huRX0 tyX0 tyX0_ok nmX0 4 hf25 rfl 0 rfl rfl (by decide) rfl rfl rfl rfl (Nat.le_of_ble_eq_true rfl) (ws' := [oX0 k0 k1 k2 k3 my mp, arI X k1 20 f1, arI X k2 20 f2, arI X k3 20 f3, oX0 j0 j1 j2 j3 my mp, arI X j1 20 f1, arI X j2 20 f2, arI X j3 20 f3]) rfl dX0_copyFrom_58 (fun H locs hw => ?_)
  exact lo_vret E hRt hLk hK hAe hw dX0_copyFrom_61 rfl ⟨rfl, rfl⟩
set_option maxHeartbeats 4000000 in
set_option maxRecDepth 100000 in
theorem kX3_clear (l : Launch) (X : KX) (a b : Nat → Nat) (P : PT) : CM l X yX3_clear wsX3_clear ({ frames := 0, cells := 0, slots := 0, locals := 0 }) [.ref (a 0)] ([oX3 (a 0) (a 1) (a 2) (Pn P), arN X (a 1) 6 b, oX0 (a 2) (a 3) (a 4) (a 5) (Px P) (Pk P), arI X (a 3) 20 (Pa P), arI X (a 4) 20 (Pb P), arI X (a 5) 20 (Pd P)] ++ ((lsW b (PL P)))) (fun v9 w9 => v9 = none ∧ w9 = [oX3 (a 0) (a 1) (a 2) 0, arN X (a 1) 6 b, oX0 (a 2) (a 3) (a 4) (a 5) 0 0, arI X (a 3) 20 (Pa P), arI X (a 4) 20 (Pb P), arI X (a 5) 20 (Pd P)] ++ ((lsW b (PL P)))) 0 0 := by
  refine lo_enter (cc := cX3_clear) (maxL := 1) (ret := none) (lv := [(0, .ref (a 0))]) (by decide) rfl rfl (Nat.le_of_ble_eq_true rfl) ?_
  intro p9 e9 s9 m9 bl9 me9 c9 A9 ls hAe E hRt hLk hK hl hw
  have Ex := E.1
  have Eb := E.2.1
  have huRX3 : ∀ w ∈ u_ws RX3 TX3 3, w ∈ wsX3_clear := by decide +kernel
  have hf24 : (Cond.fieldLink RX3 24 "LoanSchedule$Plan" "count" "I").before _ s9 = true := E.2.2.2.2 _ (List.mem_of_getElem? (i := 1) rfl)
  have hf20 : (Cond.fieldLink RX3 20 "LoanSchedule$Plan" "book" "LLoanSchedule$Book;").before _ s9 = true := E.2.2.2.2 _ (List.mem_of_getElem? (i := 2) rfl)
  have huRX0 : ∀ w ∈ u_ws RX0 TX0 5, w ∈ wsX3_clear := by decide +kernel
  have hf36 : (Cond.fieldLink RX3 36 "LoanSchedule$Book" "next" "I").before _ s9 = true := E.2.2.2.2 _ (List.mem_of_getElem? (i := 3) rfl)
  have hf39 : (Cond.fieldLink RX3 39 "LoanSchedule$Book" "kept" "I").before _ s9 = true := E.2.2.2.2 _ (List.mem_of_getElem? (i := 4) rfl)
  refine lv_aload_n Ex Eb dX3_clear_0 rfl (lv_at hl 0 rfl) ?_
  refine lv_iconst (v := iI 0) Ex Eb dX3_clear_1 rfl ?_
  refine lo_put E hK hw huRX3 tyX3 tyX3_ok nmX3 2 hf24 rfl 0 rfl rfl (by decide) rfl rfl rfl rfl (Nat.le_of_ble_eq_true rfl) (ws' := [oX3 (a 0) (a 1) (a 2) 0, arN X (a 1) 6 b, oX0 (a 2) (a 3) (a 4) (a 5) (Px P) (Pk P), arI X (a 3) 20 (Pa P), arI X (a 4) 20 (Pb P), arI X (a 5) 20 (Pd P)] ++ ((lsW b (PL P)))) rfl dX3_clear_2 (fun H locs hw => ?_)
  refine lv_aload_n Ex Eb dX3_clear_5 rfl (lv_at hl 0 rfl) ?_
  refine lo_get E hK hw huRX3 1 hf20 rfl 0 rfl rfl (by decide) (v := .ref (a 2)) rfl dX3_clear_6 ?_
  refine lv_iconst (v := iI 0) Ex Eb dX3_clear_9 rfl ?_
  refine lo_put E hK hw huRX0 tyX0 tyX0_ok nmX0 3 hf36 rfl 2 rfl rfl (by decide) rfl rfl rfl rfl (Nat.le_of_ble_eq_true rfl) (ws' := [oX3 (a 0) (a 1) (a 2) 0, arN X (a 1) 6 b, oX0 (a 2) (a 3) (a 4) (a 5) 0 (Pk P), arI X (a 3) 20 (Pa P), arI X (a 4) 20 (Pb P), arI X (a 5) 20 (Pd P)] ++ ((lsW b (PL P)))) rfl dX3_clear_10 (fun H locs hw => ?_)
  refine lv_aload_n Ex Eb dX3_clear_13 rfl (lv_at hl 0 rfl) ?_
  refine lo_get E hK hw huRX3 1 hf20 rfl 0 rfl rfl (by decide) (v := .ref (a 2)) rfl dX3_clear_14 ?_
  refine lv_iconst (v := iI 0) Ex Eb dX3_clear_17 rfl ?_
  refine lo_put E hK hw huRX0 tyX0 tyX0_ok nmX0 4 hf39 rfl 2 rfl rfl (by decide) rfl rfl rfl rfl (Nat.le_of_ble_eq_true rfl) (ws' := [oX3 (a 0) (a 1) (a 2) 0, arN X (a 1) 6 b, oX0 (a 2) (a 3) (a 4) (a 5) 0 0, arI X (a 3) 20 (Pa P), arI X (a 4) 20 (Pb P), arI X (a 5) 20 (Pd P)] ++ ((lsW b (PL P)))) rfl dX3_clear_18 (fun H locs hw => ?_)
  exact lo_vret E hRt hLk hK hAe hw dX3_clear_21 rfl ⟨rfl, rfl⟩
set_option maxHeartbeats 4000000 in
set_option maxRecDepth 100000 in
theorem kX3_hasRoom (l : Launch) (X : KX) (a b : Nat → Nat) (P : PT) (hPI : PI P) : CM l X yX3_hasRoom wsX3_hasRoom ({ frames := 0, cells := 0, slots := 0, locals := 0 }) [.ref (a 0)] ([oX3 (a 0) (a 1) (a 2) (Pn P), arN X (a 1) 6 b, oX0 (a 2) (a 3) (a 4) (a 5) (Px P) (Pk P), arI X (a 3) 20 (Pa P), arI X (a 4) 20 (Pb P), arI X (a 5) 20 (Pd P)] ++ ((lsW b (PL P)))) (fun v9 w9 => ∃ r : Int, ((r = 1 ∧ Pn P < 6) ∨ (r = 0 ∧ Pn P = 6)) ∧ v9 = some (.int (iI r)) ∧ w9 = [oX3 (a 0) (a 1) (a 2) (Pn P), arN X (a 1) 6 b, oX0 (a 2) (a 3) (a 4) (a 5) (Px P) (Pk P), arI X (a 3) 20 (Pa P), arI X (a 4) 20 (Pb P), arI X (a 5) 20 (Pd P)] ++ ((lsW b (PL P)))) 0 0 := by
  refine lo_enter (cc := cX3_hasRoom) (maxL := 1) (ret := (some .boolean)) (lv := [(0, .ref (a 0))]) (by decide) rfl rfl (Nat.le_of_ble_eq_true rfl) ?_
  intro p9 e9 s9 m9 bl9 me9 c9 A9 ls hAe E hRt hLk hK hl hw
  have Ex := E.1
  have Eb := E.2.1
  have huRX3 : ∀ w ∈ u_ws RX3 TX3 3, w ∈ wsX3_hasRoom := by decide +kernel
  have hf24 : (Cond.fieldLink RX3 24 "LoanSchedule$Plan" "count" "I").before _ s9 = true := E.2.2.2.2 _ (List.mem_of_getElem? (i := 1) rfl)
  obtain ⟨⟨hn0, hn1⟩, ⟨hx0, hx1⟩, ⟨hk0, hk1⟩, hL⟩ := id hPI
  refine lv_aload_n Ex Eb dX3_hasRoom_0 rfl (lv_at hl 0 rfl) ?_
  refine lo_get E hK hw huRX3 2 hf24 rfl 0 rfl rfl (by decide) (v := .int (iI (Pn P))) rfl dX3_hasRoom_1 ?_
  refine lv_bipush (v := iI 6) Ex Eb dX3_hasRoom_4 rfl ?_
  refine lo_icmp_ge (tgt := 13) E dX3_hasRoom_6 (by decide) (by omega) (by omega) (fun c1 => ?_) (fun c1 => ?_)
  · skip
    refine lv_iconst (v := iI 0) Ex Eb dX3_hasRoom_13 rfl ?_
    exact lo_zret E hRt hLk hK hAe hw dX3_hasRoom_14 rfl rfl ⟨0, (by omega), rfl, rfl⟩
  · skip
    refine lv_iconst (v := iI 1) Ex Eb dX3_hasRoom_9 rfl ?_
    refine lv_goto (tgt := 14) Ex Eb dX3_hasRoom_10 (by decide) ?_
    exact lo_zret E hRt hLk hK hAe hw dX3_hasRoom_14 rfl rfl ⟨1, (by omega), rfl, rfl⟩
set_option maxHeartbeats 4000000 in
set_option maxRecDepth 100000 in
theorem kX3_has (l : Launch) (X : KX) (a b : Nat → Nat) (P : PT) (i : Int) (hPI : PI P) (hi : i32 i) : CM l X yX3_has wsX3_has ({ frames := 0, cells := 0, slots := 0, locals := 0 }) [.ref (a 0), .int (iI i)] ([oX3 (a 0) (a 1) (a 2) (Pn P), arN X (a 1) 6 b, oX0 (a 2) (a 3) (a 4) (a 5) (Px P) (Pk P), arI X (a 3) 20 (Pa P), arI X (a 4) 20 (Pb P), arI X (a 5) 20 (Pd P)] ++ ((lsW b (PL P)))) (fun v9 w9 => ∃ r : Int, ((r = 1 ∧ 0 ≤ i ∧ i < Pn P) ∨ (r = 0 ∧ ¬ (0 ≤ i ∧ i < Pn P))) ∧ v9 = some (.int (iI r)) ∧ w9 = [oX3 (a 0) (a 1) (a 2) (Pn P), arN X (a 1) 6 b, oX0 (a 2) (a 3) (a 4) (a 5) (Px P) (Pk P), arI X (a 3) 20 (Pa P), arI X (a 4) 20 (Pb P), arI X (a 5) 20 (Pd P)] ++ ((lsW b (PL P)))) 0 0 := by
  refine lo_enter (cc := cX3_has) (maxL := 2) (ret := (some .boolean)) (lv := [(0, .ref (a 0)), (1, .int (iI i))]) (by decide) rfl rfl (Nat.le_of_ble_eq_true rfl) ?_
  intro p9 e9 s9 m9 bl9 me9 c9 A9 ls hAe E hRt hLk hK hl hw
  have Ex := E.1
  have Eb := E.2.1
  have huRX3 : ∀ w ∈ u_ws RX3 TX3 3, w ∈ wsX3_has := by decide +kernel
  have hf24 : (Cond.fieldLink RX3 24 "LoanSchedule$Plan" "count" "I").before _ s9 = true := E.2.2.2.2 _ (List.mem_of_getElem? (i := 1) rfl)
  obtain ⟨⟨hn0, hn1⟩, ⟨hx0, hx1⟩, ⟨hk0, hk1⟩, hL⟩ := id hPI
  refine lv_iload_n Ex Eb dX3_has_0 rfl (lv_at hl 1 rfl) ?_
  refine lo_if_lt (tgt := 22) E dX3_has_1 (by decide) (by omega) (fun c1 => ?_) (fun c1 => ?_)
  · skip
    refine lv_iconst (v := iI 0) Ex Eb dX3_has_22 rfl ?_
    exact lo_zret E hRt hLk hK hAe hw dX3_has_23 rfl rfl ⟨0, (by omega), rfl, rfl⟩
  · skip
    refine lv_iload_n Ex Eb dX3_has_4 rfl (lv_at hl 1 rfl) ?_
    refine lv_aload_n Ex Eb dX3_has_5 rfl (lv_at hl 0 rfl) ?_
    refine lo_get E hK hw huRX3 2 hf24 rfl 0 rfl rfl (by decide) (v := .int (iI (Pn P))) rfl dX3_has_6 ?_
    refine lo_icmp_ge (tgt := 22) E dX3_has_9 (by decide) (by omega) (by omega) (fun c2 => ?_) (fun c2 => ?_)
    · skip
      refine lv_iconst (v := iI 0) Ex Eb dX3_has_22 rfl ?_
      exact lo_zret E hRt hLk hK hAe hw dX3_has_23 rfl rfl ⟨0, (by omega), rfl, rfl⟩
    · skip
      refine lv_iload_n Ex Eb dX3_has_12 rfl (lv_at hl 1 rfl) ?_
      refine lv_bipush (v := iI 6) Ex Eb dX3_has_13 rfl ?_
      refine lo_icmp_ge (tgt := 22) E dX3_has_15 (by decide) (by omega) (by omega) (fun c3 => ?_) (fun c3 => ?_)
      · skip
        refine lv_iconst (v := iI 0) Ex Eb dX3_has_22 rfl ?_
        exact lo_zret E hRt hLk hK hAe hw dX3_has_23 rfl rfl ⟨0, (by omega), rfl, rfl⟩
      · skip
        refine lv_iconst (v := iI 1) Ex Eb dX3_has_18 rfl ?_
        refine lv_goto (tgt := 23) Ex Eb dX3_has_19 (by decide) ?_
        exact lo_zret E hRt hLk hK hAe hw dX3_has_23 rfl rfl ⟨1, (by omega), rfl, rfl⟩
set_option maxHeartbeats 4000000 in
set_option maxRecDepth 100000 in
theorem kX3_addLoan (l : Launch) (X : KX) (a b : Nat → Nat) (P : PT) (x r m : Int) (hPI : PI P) (hroom : Pn P < 6) (hx : 1 ≤ x ∧ x ≤ 9999999) (hr9 : 0 ≤ r ∧ r ≤ 3000) (hm9 : 1 ≤ m ∧ m ≤ 120) : CM l X yX3_addLoan wsX3_addLoan ({ frames := 3, cells := 0, slots := 0, locals := 79 }) [.ref (a 0), .int (iI x), .int (iI r), .int (iI m)] ([oX3 (a 0) (a 1) (a 2) (Pn P), arN X (a 1) 6 b, oX0 (a 2) (a 3) (a 4) (a 5) (Px P) (Pk P), arI X (a 3) 20 (Pa P), arI X (a 4) 20 (Pb P), arI X (a 5) 20 (Pd P)] ++ ((lsW b (PL P)))) (fun v9 w9 => v9 = none ∧ w9 = [oX3 (a 0) (a 1) (a 2) (Pn (plNew P x r m)), arN X (a 1) 6 b, oX0 (a 2) (a 3) (a 4) (a 5) (Px (plNew P x r m)) (Pk (plNew P x r m)), arI X (a 3) 20 (Pa (plNew P x r m)), arI X (a 4) 20 (Pb (plNew P x r m)), arI X (a 5) 20 (Pd (plNew P x r m))] ++ ((lsW b (PL (plNew P x r m))))) 0 0 := by
  refine lo_enter (cc := cX3_addLoan) (maxL := 4) (ret := none) (lv := [(0, .ref (a 0)), (1, .int (iI x)), (2, .int (iI r)), (3, .int (iI m))]) (by decide) rfl rfl (Nat.le_of_ble_eq_true rfl) ?_
  intro p9 e9 s9 m9 bl9 me9 c9 A9 ls hAe E hRt hLk hK hl hw
  have Ex := E.1
  have Eb := E.2.1
  have huRX3 : ∀ w ∈ u_ws RX3 TX3 3, w ∈ wsX3_addLoan := by decide +kernel
  have hf24 : (Cond.fieldLink RX3 24 "LoanSchedule$Plan" "count" "I").before _ s9 = true := E.2.2.2.2 _ (List.mem_of_getElem? (i := 1) rfl)
  have hf11 : (Cond.fieldLink RX3 11 "LoanSchedule$Plan" "loans" "[LLoanSchedule$Loan;").before _ s9 = true := E.2.2.2.2 _ (List.mem_of_getElem? (i := 2) rfl)
  obtain ⟨⟨hn0, hn1⟩, ⟨hx0, hx1⟩, ⟨hk0, hk1⟩, hL⟩ := id hPI
  refine lv_aload_n Ex Eb dX3_addLoan_0 rfl (lv_at hl 0 rfl) ?_
  refine lo_get E hK hw huRX3 2 hf24 rfl 0 rfl rfl (by decide) (v := .int (iI (Pn P))) rfl dX3_addLoan_1 ?_
  refine lv_bipush (v := iI 6) Ex Eb dX3_addLoan_4 rfl ?_
  refine lo_icmp_ge (tgt := 34) E dX3_addLoan_6 (by decide) (by omega) (by omega) (fun c1 => ?_) (fun c1 => ?_)
  · exact absurd c1 (by omega)
  · skip
    refine lv_aload_n Ex Eb dX3_addLoan_9 rfl (lv_at hl 0 rfl) ?_
    refine lo_get E hK hw huRX3 0 hf11 rfl 0 rfl rfl (by decide) (v := .ref (a 1)) rfl dX3_addLoan_10 ?_
    refine lv_aload_n Ex Eb dX3_addLoan_13 rfl (lv_at hl 0 rfl) ?_
    refine lo_get E hK hw huRX3 2 hf24 rfl 0 rfl rfl (by decide) (v := .int (iI (Pn P))) rfl dX3_addLoan_14 ?_
    refine lo_aldN E hK hw 1 rfl (by omega) dX3_addLoan_17 ?_
    refine lv_iload_n Ex Eb dX3_addLoan_18 rfl (lv_at hl 1 rfl) ?_
    refine lv_iload_n Ex Eb dX3_addLoan_19 rfl (lv_at hl 2 rfl) ?_
    refine lv_iload_n Ex Eb dX3_addLoan_20 rfl (lv_at hl 3 rfl) ?_
    refine lo_callV (q0 := (6 + ((Pn P).toNat))) (rest := []) E hK hw (kX2_begin l X (b (Pn P).toNat) (PL P (Pn P).toNat) x r m (by omega) (by omega) (by omega)) (cwV 3 E.2.2.2.2 gX3_addLoan_X2_begin rfl rfl rfl (by decide +kernel) ⟨Nat.le_of_ble_eq_true rfl, Nat.le_of_ble_eq_true rfl⟩) (lsW_atE (k := 6) rfl (by omega)) rfl [6 + ((Pn P).toNat)] (lo_ps_cons (lsW_atE (k := 6) rfl (by omega)) lo_ps_nil) (by simp [va_nd]) hl.1 rfl rfl (Nat.le_of_ble_eq_true rfl) dX3_addLoan_21 ⟨Nat.le_of_ble_eq_true rfl, Nat.le_of_ble_eq_true rfl⟩ (fun v w1 H locs hq hw => ?_)
    obtain ⟨rfl, rfl⟩ := hq
    have hw := lo_cast (lsW_cE1 (k := 6) rfl (by omega) (newL x r m)) hw
    have hw : lo_Wd X ([oX3 (a 0) (a 1) (a 2) (Pn P), arN X (a 1) 6 b, oX0 (a 2) (a 3) (a 4) (a 5) (Px P) (Pk P), arI X (a 3) 20 (Pa P), arI X (a 4) 20 (Pb P), arI X (a 5) 20 (Pd P)] ++ ((lsW b (uF (PL P) (Pn P).toNat (newL x r m))))) A9 s9.heap H locs := hw
    refine W.eq (g2 := F0 m9 24 ls []) rfl ?_
    refine lv_aload_n Ex Eb dX3_addLoan_24 rfl (lv_at hl 0 rfl) ?_
    refine lv_dup Ex Eb dX3_addLoan_25 rfl ?_
    refine lo_get E hK hw huRX3 2 hf24 rfl 0 rfl rfl (by decide) (v := .int (iI (Pn P))) rfl dX3_addLoan_26 ?_
    refine lv_iconst (v := iI 1) Ex Eb dX3_addLoan_29 rfl ?_
    refine lo_iadd E dX3_addLoan_30 ?_
    refine lo_put E hK hw huRX3 tyX3 tyX3_ok nmX3 2 hf24 rfl 0 rfl rfl (by decide) rfl rfl rfl rfl (Nat.le_of_ble_eq_true rfl) (ws' := [oX3 (a 0) (a 1) (a 2) ((Pn P) + 1), arN X (a 1) 6 b, oX0 (a 2) (a 3) (a 4) (a 5) (Px P) (Pk P), arI X (a 3) 20 (Pa P), arI X (a 4) 20 (Pb P), arI X (a 5) 20 (Pd P)] ++ ((lsW b (uF (PL P) (Pn P).toNat (newL x r m))))) rfl dX3_addLoan_31 (fun H locs hw => ?_)
    exact lo_vret E hRt hLk hK hAe hw dX3_addLoan_34 rfl ⟨rfl, rfl⟩
set_option maxHeartbeats 4000000 in
set_option maxRecDepth 100000 in
theorem kX3_settle (l : Launch) (X : KX) (a b : Nat → Nat) (P : PT) (i : Int) (hPI : PI P) (hi : 0 ≤ i ∧ i < Pn P) (ho : 0 < PL P i.toNat 1) : CM l X yX3_settle wsX3_settle ({ frames := 2, cells := 0, slots := 0, locals := 83 }) [.ref (a 0), .int (iI i)] ([oX3 (a 0) (a 1) (a 2) (Pn P), arN X (a 1) 6 b, oX0 (a 2) (a 3) (a 4) (a 5) (Px P) (Pk P), arI X (a 3) 20 (Pa P), arI X (a 4) 20 (Pb P), arI X (a 5) 20 (Pd P)] ++ ((lsW b (PL P)))) (fun v9 w9 => v9 = some (.int (iI (dueL (PL P i.toNat)))) ∧ w9 = [oX3 (a 0) (a 1) (a 2) (Pn (plPay P i)), arN X (a 1) 6 b, oX0 (a 2) (a 3) (a 4) (a 5) (Px (plPay P i)) (Pk (plPay P i)), arI X (a 3) 20 (Pa (plPay P i)), arI X (a 4) 20 (Pb (plPay P i)), arI X (a 5) 20 (Pd (plPay P i))] ++ ((lsW b (PL (plPay P i))))) 0 0 := by
  refine lo_enter (cc := cX3_settle) (maxL := 4) (ret := (some .int)) (lv := [(0, .ref (a 0)), (1, .int (iI i))]) (by decide) rfl rfl (Nat.le_of_ble_eq_true rfl) ?_
  intro p9 e9 s9 m9 bl9 me9 c9 A9 ls hAe E hRt hLk hK hl hw
  have Ex := E.1
  have Eb := E.2.1
  have huRX3 : ∀ w ∈ u_ws RX3 TX3 3, w ∈ wsX3_settle := by decide +kernel
  have hf11 : (Cond.fieldLink RX3 11 "LoanSchedule$Plan" "loans" "[LLoanSchedule$Loan;").before _ s9 = true := E.2.2.2.2 _ (List.mem_of_getElem? (i := 1) rfl)
  have hf20 : (Cond.fieldLink RX3 20 "LoanSchedule$Plan" "book" "LLoanSchedule$Book;").before _ s9 = true := E.2.2.2.2 _ (List.mem_of_getElem? (i := 2) rfl)
  obtain ⟨⟨hn0, hn1⟩, ⟨hx0, hx1⟩, ⟨hk0, hk1⟩, hL⟩ := id hPI
  have hLi := hL i.toNat (by omega)
  obtain ⟨⟨hb0, hb1⟩, ⟨hr0, hr1⟩, ⟨hc0, hc1⟩, ⟨hm0, hm1⟩, ⟨hi0, hi1⟩, ⟨hs0, hs1⟩, hop, hcl⟩ := id hLi
  refine lv_aload_n Ex Eb dX3_settle_0 rfl (lv_at hl 0 rfl) ?_
  refine lv_iload_n Ex Eb dX3_settle_1 rfl (lv_at hl 1 rfl) ?_
  refine lo_callV (q0 := 0) (rest := []) E hK hw (kX3_has l X a b P i (by omega) (by omega)) (cwV 1 E.2.2.2.2 gX3_settle_X3_has rfl rfl rfl (by decide +kernel) ⟨Nat.le_of_ble_eq_true rfl, Nat.le_of_ble_eq_true rfl⟩) rfl rfl [0, 1, 2, 3, 4, 5, 6, 7, 8, 9, 10, 11] rfl (by decide) hl.1 rfl rfl (Nat.le_of_ble_eq_true rfl) dX3_settle_2 ⟨Nat.le_of_ble_eq_true rfl, Nat.le_of_ble_eq_true rfl⟩ (fun v w1 H locs hq hw => ?_)
  obtain ⟨r1, q2_0, rfl, rfl⟩ := hq
  have hw : lo_Wd X ([oX3 (a 0) (a 1) (a 2) (Pn P), arN X (a 1) 6 b, oX0 (a 2) (a 3) (a 4) (a 5) (Px P) (Pk P), arI X (a 3) 20 (Pa P), arI X (a 4) 20 (Pb P), arI X (a 5) 20 (Pd P)] ++ ((lsW b (PL P)))) A9 s9.heap H locs := hw
  refine W.eq (g2 := F0 m9 5 ls [.int (iI r1)]) rfl ?_
  refine lo_if_ne (tgt := 10) E dX3_settle_5 (by decide) (by omega) (fun c2 => ?_) (fun c2 => ?_)
  · skip
    refine lv_aload_n Ex Eb dX3_settle_10 rfl (lv_at hl 0 rfl) ?_
    refine lo_get E hK hw huRX3 0 hf11 rfl 0 rfl rfl (by decide) (v := .ref (a 1)) rfl dX3_settle_11 ?_
    refine lv_iload_n Ex Eb dX3_settle_14 rfl (lv_at hl 1 rfl) ?_
    refine lo_aldN E hK hw 1 rfl (by omega) dX3_settle_15 ?_
    refine lo_callV (q0 := (6 + i.toNat)) (rest := []) E hK hw (kX2_nextInterest l X (b i.toNat) (PL P i.toNat) (by omega) (by omega) (by omega) (by omega) (by omega) (by omega)) (cwV 0 E.2.2.2.2 gX3_settle_X2_nextInterest rfl rfl rfl (by decide +kernel) ⟨Nat.le_of_ble_eq_true rfl, Nat.le_of_ble_eq_true rfl⟩) (lsW_atE (k := 6) rfl (by omega)) rfl [6 + i.toNat] (lo_ps_cons (lsW_atE (k := 6) rfl (by omega)) lo_ps_nil) (by simp [va_nd]) hl.1 rfl rfl (Nat.le_of_ble_eq_true rfl) dX3_settle_16 ⟨Nat.le_of_ble_eq_true rfl, Nat.le_of_ble_eq_true rfl⟩ (fun v w1 H locs hq hw => ?_)
    obtain ⟨rfl, rfl⟩ := hq
    have hw := lo_cast (lsW_cE0 (k := 6) rfl (by omega)) hw
    have hw : lo_Wd X ([oX3 (a 0) (a 1) (a 2) (Pn P), arN X (a 1) 6 b, oX0 (a 2) (a 3) (a 4) (a 5) (Px P) (Pk P), arI X (a 3) 20 (Pa P), arI X (a 4) 20 (Pb P), arI X (a 5) 20 (Pd P)] ++ ((lsW b (PL P)))) A9 s9.heap H locs := hw
    refine W.eq (g2 := F0 m9 19 ls [.int (iI (fI (PL P i.toNat 1) (PL P i.toNat 2) (PL P i.toNat 5)))]) rfl ?_
    refine lv_istore_n (lv' := [(2, .int (iI (fI (PL P i.toNat 1) (PL P i.toNat 2) (PL P i.toNat 5)))), (0, .ref (a 0)), (1, .int (iI i))]) Ex Eb dX3_settle_19 rfl hl (by decide) rfl (fun ls hl => ?_)
    refine lv_aload_n Ex Eb dX3_settle_20 rfl (lv_at hl 1 rfl) ?_
    refine lo_get E hK hw huRX3 0 hf11 rfl 0 rfl rfl (by decide) (v := .ref (a 1)) rfl dX3_settle_21 ?_
    refine lv_iload_n Ex Eb dX3_settle_24 rfl (lv_at hl 2 rfl) ?_
    refine lo_aldN E hK hw 1 rfl (by omega) dX3_settle_25 ?_
    refine lo_callV (q0 := (6 + i.toNat)) (rest := []) E hK hw (kX2_settleMonth l X (b i.toNat) (PL P i.toNat) (by omega) (by omega) (by omega) (by omega) (by omega) (by omega) (by omega) (by omega)) (cwV 0 E.2.2.2.2 gX3_settle_X2_settleMonth rfl rfl rfl (by decide +kernel) ⟨Nat.le_of_ble_eq_true rfl, Nat.le_of_ble_eq_true rfl⟩) (lsW_atE (k := 6) rfl (by omega)) rfl [6 + i.toNat] (lo_ps_cons (lsW_atE (k := 6) rfl (by omega)) lo_ps_nil) (by simp [va_nd]) hl.1 rfl rfl (Nat.le_of_ble_eq_true rfl) dX3_settle_26 ⟨Nat.le_of_ble_eq_true rfl, Nat.le_of_ble_eq_true rfl⟩ (fun v w1 H locs hq hw => ?_)
    obtain ⟨rfl, rfl⟩ := hq
    have hw := lo_cast (lsW_cE1 (k := 6) rfl (by omega) (payL (PL P i.toNat))) hw
    have hw : lo_Wd X ([oX3 (a 0) (a 1) (a 2) (Pn P), arN X (a 1) 6 b, oX0 (a 2) (a 3) (a 4) (a 5) (Px P) (Pk P), arI X (a 3) 20 (Pa P), arI X (a 4) 20 (Pb P), arI X (a 5) 20 (Pd P)] ++ ((lsW b (uF (PL P) i.toNat (payL (PL P i.toNat)))))) A9 s9.heap H locs := hw
    refine W.eq (g2 := F0 m9 29 ls [.int (iI (dueL (PL P i.toNat)))]) rfl ?_
    refine lv_istore_n (lv' := [(3, .int (iI (dueL (PL P i.toNat)))), (2, .int (iI (fI (PL P i.toNat 1) (PL P i.toNat 2) (PL P i.toNat 5)))), (0, .ref (a 0)), (1, .int (iI i))]) Ex Eb dX3_settle_29 rfl hl (by decide) rfl (fun ls hl => ?_)
    refine lv_aload_n Ex Eb dX3_settle_30 rfl (lv_at hl 2 rfl) ?_
    refine lo_get E hK hw huRX3 1 hf20 rfl 0 rfl rfl (by decide) (v := .ref (a 2)) rfl dX3_settle_31 ?_
    refine lv_iload_n Ex Eb dX3_settle_34 rfl (lv_at hl 3 rfl) ?_
    refine lv_iload_n Ex Eb dX3_settle_35 rfl (lv_at hl 0 rfl) ?_
    refine lv_iload_n Ex Eb dX3_settle_36 rfl (lv_at hl 1 rfl) ?_
    refine lo_callV (q0 := 2) (rest := []) E hK hw (kX0_write l X (a 2) (a 3) (a 4) (a 5) (Px P) (Pk P) (Pa P) (Pb P) (Pd P) i (dueL (PL P i.toNat)) (fI (PL P i.toNat 1) (PL P i.toNat 2) (PL P i.toNat 5)) (by omega) (by omega)) (cwV 3 E.2.2.2.2 gX3_settle_X0_write rfl rfl rfl (by decide +kernel) ⟨Nat.le_of_ble_eq_true rfl, Nat.le_of_ble_eq_true rfl⟩) rfl rfl [2, 3, 4, 5] rfl (by decide) hl.1 rfl rfl (Nat.le_of_ble_eq_true rfl) dX3_settle_37 ⟨Nat.le_of_ble_eq_true rfl, Nat.le_of_ble_eq_true rfl⟩ (fun v w1 H locs hq hw => ?_)
    obtain ⟨rfl, rfl⟩ := hq
    have hw : lo_Wd X ([oX3 (a 0) (a 1) (a 2) (Pn P), arN X (a 1) 6 b, oX0 (a 2) (a 3) (a 4) (a 5) (((Px P) + 1) % 20) (min ((Pk P) + 1) 20), arI X (a 3) 20 (uI (Pa P) (Px P).toNat i), arI X (a 4) 20 (uI (Pb P) (Px P).toNat (dueL (PL P i.toNat))), arI X (a 5) 20 (uI (Pd P) (Px P).toNat (fI (PL P i.toNat 1) (PL P i.toNat 2) (PL P i.toNat 5)))] ++ ((lsW b (uF (PL P) i.toNat (payL (PL P i.toNat)))))) A9 s9.heap H locs := hw
    refine W.eq (g2 := F0 m9 40 ls []) rfl ?_
    refine lv_iload_n Ex Eb dX3_settle_40 rfl (lv_at hl 0 rfl) ?_
    exact lo_iret E hRt hLk hK hAe hw dX3_settle_41 rfl ⟨rfl, rfl⟩
  · exact absurd c2 (by omega)
