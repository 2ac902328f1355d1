set_option maxHeartbeats 4000000 in
set_option maxRecDepth 100000 in
theorem kX1_remember (l : Launch) (X : KX) (h hp : Nat) (f : Nat → Nat) (nx kp : Int) (g q a b : Nat → Nat) (Q P : PT) (hnx : 0 ≤ nx ∧ nx < 8) (hkp : 0 ≤ kp ∧ kp ≤ 8) (hf : f nx.toNat = g 0) (hPI : PI P) : CM l X yX1_remember wsX1_remember ({ frames := 3, cells := 0, slots := 0, locals := 103 }) [.ref h, .ref (a 0)] ([oX1 h hp nx kp, arP X hp 8 f, oX3 (g 0) (g 1) (g 2) (Pn Q), arN X (g 1) 6 q, oX0 (g 2) (g 3) (g 4) (g 5) (Px Q) (Pk Q), arI X (g 3) 20 (Pa Q), arI X (g 4) 20 (Pb Q), arI X (g 5) 20 (Pd Q), oX3 (a 0) (a 1) (a 2) (Pn P), arN X (a 1) 6 b, oX0 (a 2) (a 3) (a 4) (a 5) (Px P) (Pk P), arI X (a 3) 20 (Pa P), arI X (a 4) 20 (Pb P), arI X (a 5) 20 (Pd P)] ++ ((lsW q (PL Q)) ++ ((lsW b (PL P))))) (fun v9 w9 => v9 = none ∧ w9 = [oX1 h hp ((nx + 1) % 8) (min (kp + 1) 8), arP X hp 8 f, oX3 (g 0) (g 1) (g 2) (Pn (cpP Q P)), arN X (g 1) 6 q, oX0 (g 2) (g 3) (g 4) (g 5) (Px (cpP Q P)) (Pk (cpP Q P)), arI X (g 3) 20 (Pa (cpP Q P)), arI X (g 4) 20 (Pb (cpP Q P)), arI X (g 5) 20 (Pd (cpP Q P)), oX3 (a 0) (a 1) (a 2) (Pn P), arN X (a 1) 6 b, oX0 (a 2) (a 3) (a 4) (a 5) (Px P) (Pk P), arI X (a 3) 20 (Pa P), arI X (a 4) 20 (Pb P), arI X (a 5) 20 (Pd P)] ++ ((lsW q (PL (cpP Q P))) ++ ((lsW b (PL P))))) 0 0 := by
  refine lo_enter (cc := cX1_remember) (maxL := 2) (ret := none) (lv := [(0, .ref h), (1, .ref (a 0))]) (by decide) rfl rfl (Nat.le_of_ble_eq_true rfl) ?_
  intro p9 e9 s9 m9 bl9 me9 c9 A9 ls hAe E hRt hLk hK hl hw
  have Ex := E.1
  have Eb := E.2.1
  have huRX1 : ∀ w ∈ u_ws RX1 TX1 3, w ∈ wsX1_remember := by decide +kernel
  have hf17 : (Cond.fieldLink RX1 17 "LoanSchedule$History" "next" "I").before _ s9 = true := E.2.2.2.2 _ (List.mem_of_getElem? (i := 1) rfl)
  have hf11 : (Cond.fieldLink RX1 11 "LoanSchedule$History" "plans" "[LLoanSchedule$Plan;").before _ s9 = true := E.2.2.2.2 _ (List.mem_of_getElem? (i := 2) rfl)
  have hf21 : (Cond.fieldLink RX1 21 "LoanSchedule$History" "kept" "I").before _ s9 = true := E.2.2.2.2 _ (List.mem_of_getElem? (i := 3) rfl)
  have hl29 : (Cond.methodLink RX1 29 Lib.Math.min.name).before _ s9 = true := E.2.2.2.2 _ (List.mem_of_getElem? (i := 4) rfl)
  have hstmin : (Cond.static Lib.Math.min.name).before _ s9 = true := E.2.2.2.2 _ (List.mem_of_getElem? (i := 5) rfl)
  have hmath : (Cond.initialized "java/lang/Math").before _ s9 = true := E.2.2.2.2 _ (List.mem_of_getElem? (i := 6) rfl)
  have hcdmin : (Cond.code Lib.Math.min.name Lib.Math.min.code 2 (some .int)).before _ s9 = true := E.2.2.2.2 _ (List.mem_of_getElem? (i := 7) rfl)
  refine lv_aload_n Ex Eb dX1_remember_0 rfl (lv_at hl 0 rfl) ?_
  refine lo_get E hK hw huRX1 1 hf17 rfl 0 rfl rfl (by decide) (v := .int (iI nx)) rfl dX1_remember_1 ?_
  refine lo_if_lt (tgt := 16) E dX1_remember_4 (by decide) (by omega) (fun c1 => ?_) (fun c1 => ?_)
  · exact absurd c1 (by omega)
  · skip
    refine lv_aload_n Ex Eb dX1_remember_7 rfl (lv_at hl 0 rfl) ?_
    refine lo_get E hK hw huRX1 1 hf17 rfl 0 rfl rfl (by decide) (v := .int (iI nx)) rfl dX1_remember_8 ?_
    refine lv_bipush (v := iI 8) Ex Eb dX1_remember_11 rfl ?_
    refine lo_icmp_lt (tgt := 17) E dX1_remember_13 (by decide) (by omega) (by omega) (fun c2 => ?_) (fun c2 => ?_)
    · skip
      refine lv_aload_n Ex Eb dX1_remember_17 rfl (lv_at hl 0 rfl) ?_
      refine lo_get E hK hw huRX1 0 hf11 rfl 0 rfl rfl (by decide) (v := .ref hp) rfl dX1_remember_18 ?_
      refine lv_aload_n Ex Eb dX1_remember_21 rfl (lv_at hl 0 rfl) ?_
      refine lo_get E hK hw huRX1 1 hf17 rfl 0 rfl rfl (by decide) (v := .int (iI nx)) rfl dX1_remember_22 ?_
      refine lo_aldP E hK hw 1 rfl (by omega) dX1_remember_25 ?_
      rw [hf]
      refine W.eq (g2 := F0 m9 26 ls [.ref (g 0)]) rfl ?_
      refine lv_aload_n Ex Eb dX1_remember_26 rfl (lv_at hl 1 rfl) ?_
      have hw : lo_Wd X (([oX1 h hp nx kp, arP X hp 8 f]) ++ ([oX3 (g 0) (g 1) (g 2) (Pn Q), arN X (g 1) 6 q, oX0 (g 2) (g 3) (g 4) (g 5) (Px Q) (Pk Q), arI X (g 3) 20 (Pa Q), arI X (g 4) 20 (Pb Q), arI X (g 5) 20 (Pd Q), oX3 (a 0) (a 1) (a 2) (Pn P), arN X (a 1) 6 b, oX0 (a 2) (a 3) (a 4) (a 5) (Px P) (Pk P), arI X (a 3) 20 (Pa P), arI X (a 4) 20 (Pb P), arI X (a 5) 20 (Pd P)] ++ ((lsW q (PL Q)) ++ ((lsW b (PL P)))))) A9 s9.heap _ _ := hw
      refine lo_callV (q0 := 2) (rest := []) E hK hw (kX3_copyFrom l X g q a b Q P (hPI)) (cwV 1 E.2.2.2.2 gX1_remember_X3_copyFrom rfl rfl rfl (by decide +kernel) ⟨Nat.le_of_ble_eq_true rfl, Nat.le_of_ble_eq_true rfl⟩) rfl rfl (List.range' 2 24) (lo_ps_tail (pre := [oX1 h hp nx kp, arP X hp 8 f]) rfl rfl) (by decide +kernel) hl.1 rfl rfl (Nat.le_of_ble_eq_true rfl) dX1_remember_27 ⟨Nat.le_of_ble_eq_true rfl, Nat.le_of_ble_eq_true rfl⟩ (fun v w1 H locs hq hw => ?_)
      obtain ⟨rfl, rfl⟩ := hq
      have hw := lo_cast (lo_sets_tail (n := 24) (k := 2) (pre := [oX1 h hp nx kp, arP X hp 8 f]) (w0 := [oX3 (g 0) (g 1) (g 2) (Pn Q), arN X (g 1) 6 q, oX0 (g 2) (g 3) (g 4) (g 5) (Px Q) (Pk Q), arI X (g 3) 20 (Pa Q), arI X (g 4) 20 (Pb Q), arI X (g 5) 20 (Pd Q), oX3 (a 0) (a 1) (a 2) (Pn P), arN X (a 1) 6 b, oX0 (a 2) (a 3) (a 4) (a 5) (Px P) (Pk P), arI X (a 3) 20 (Pa P), arI X (a 4) 20 (Pb P), arI X (a 5) 20 (Pd P)] ++ ((lsW q (PL Q)) ++ ((lsW b (PL P))))) (w1 := [oX3 (g 0) (g 1) (g 2) (Pn (cpP Q P)), arN X (g 1) 6 q, oX0 (g 2) (g 3) (g 4) (g 5) (Px (cpP Q P)) (Pk (cpP Q P)), arI X (g 3) 20 (Pa (cpP Q P)), arI X (g 4) 20 (Pb (cpP Q P)), arI X (g 5) 20 (Pd (cpP Q P)), oX3 (a 0) (a 1) (a 2) (Pn P), arN X (a 1) 6 b, oX0 (a 2) (a 3) (a 4) (a 5) (Px P) (Pk P), arI X (a 3) 20 (Pa P), arI X (a 4) 20 (Pb P), arI X (a 5) 20 (Pd P)] ++ ((lsW q (PL (cpP Q P))) ++ ((lsW b (PL P))))) rfl rfl rfl) hw
      have hw : lo_Wd X ([oX1 h hp nx kp, arP X hp 8 f, oX3 (g 0) (g 1) (g 2) (Pn (cpP Q P)), arN X (g 1) 6 q, oX0 (g 2) (g 3) (g 4) (g 5) (Px (cpP Q P)) (Pk (cpP Q P)), arI X (g 3) 20 (Pa (cpP Q P)), arI X (g 4) 20 (Pb (cpP Q P)), arI X (g 5) 20 (Pd (cpP Q P)), oX3 (a 0) (a 1) (a 2) (Pn P), arN X (a 1) 6 b, oX0 (a 2) (a 3) (a 4) (a 5) (Px P) (Pk P), arI X (a 3) 20 (Pa P), arI X (a 4) 20 (Pb P), arI X (a 5) 20 (Pd P)] ++ ((lsW q (PL (cpP Q P))) ++ ((lsW b (PL P))))) A9 s9.heap H locs := hw
      refine W.eq (g2 := F0 m9 30 ls []) rfl ?_
      refine lv_aload_n Ex Eb dX1_remember_30 rfl (lv_at hl 0 rfl) ?_
      refine lv_aload_n Ex Eb dX1_remember_31 rfl (lv_at hl 0 rfl) ?_
      refine lo_get E hK hw huRX1 1 hf17 rfl 0 rfl rfl (by decide) (v := .int (iI nx)) rfl dX1_remember_32 ?_
      refine lv_iconst (v := iI 1) Ex Eb dX1_remember_35 rfl ?_
      refine lo_iadd E dX1_remember_36 ?_
      refine lv_bipush (v := iI 8) Ex Eb dX1_remember_37 rfl ?_
      refine lo_icmp_ne (tgt := 46) E dX1_remember_39 (by decide) (by omega) (by omega) (fun c3 => ?_) (fun c3 => ?_)
      · skip
        refine lv_aload_n Ex Eb dX1_remember_46 rfl (lv_at hl 0 rfl) ?_
        refine lo_get E hK hw huRX1 1 hf17 rfl 0 rfl rfl (by decide) (v := .int (iI nx)) rfl dX1_remember_47 ?_
        refine lv_iconst (v := iI 1) Ex Eb dX1_remember_50 rfl ?_
        refine lo_iadd E dX1_remember_51 ?_
        refine lo_put E hK hw huRX1 tyX1 tyX1_ok nmX1 1 hf17 rfl 0 rfl rfl (by decide) rfl rfl rfl rfl (Nat.le_of_ble_eq_true rfl) (ws' := [oX1 h hp (nx + 1) kp, arP X hp 8 f, oX3 (g 0) (g 1) (g 2) (Pn (cpP Q P)), arN X (g 1) 6 q, oX0 (g 2) (g 3) (g 4) (g 5) (Px (cpP Q P)) (Pk (cpP Q P)), arI X (g 3) 20 (Pa (cpP Q P)), arI X (g 4) 20 (Pb (cpP Q P)), arI X (g 5) 20 (Pd (cpP Q P)), oX3 (a 0) (a 1) (a 2) (Pn P), arN X (a 1) 6 b, oX0 (a 2) (a 3) (a 4) (a 5) (Px P) (Pk P), arI X (a 3) 20 (Pa P), arI X (a 4) 20 (Pb P), arI X (a 5) 20 (Pd P)] ++ ((lsW q (PL (cpP Q P))) ++ ((lsW b (PL P))))) rfl dX1_remember_52 (fun H locs hw => ?_)
        refine lv_aload_n Ex Eb dX1_remember_55 rfl (lv_at hl 0 rfl) ?_
        refine lv_aload_n Ex Eb dX1_remember_56 rfl (lv_at hl 0 rfl) ?_
        refine lo_get E hK hw huRX1 2 hf21 rfl 0 rfl rfl (by decide) (v := .int (iI kp)) rfl dX1_remember_57 ?_
        refine lv_iconst (v := iI 1) Ex Eb dX1_remember_60 rfl ?_
        refine lo_iadd E dX1_remember_61 ?_
        refine lv_bipush (v := iI 8) Ex Eb dX1_remember_62 rfl ?_
        refine lo_mmin E hl.1 hl29 hstmin hmath hcdmin (Nat.le_of_ble_eq_true rfl) (Nat.le_of_ble_eq_true rfl) (Nat.le_of_ble_eq_true rfl) (Nat.le_of_ble_eq_true rfl) (by omega) (by omega) dX1_remember_64 ?_
        refine lo_put E hK hw huRX1 tyX1 tyX1_ok nmX1 2 hf21 rfl 0 rfl rfl (by decide) rfl rfl rfl rfl (Nat.le_of_ble_eq_true rfl) (ws' := [oX1 h hp (nx + 1) (min (kp + 1) 8), arP X hp 8 f, oX3 (g 0) (g 1) (g 2) (Pn (cpP Q P)), arN X (g 1) 6 q, oX0 (g 2) (g 3) (g 4) (g 5) (Px (cpP Q P)) (Pk (cpP Q P)), arI X (g 3) 20 (Pa (cpP Q P)), arI X (g 4) 20 (Pb (cpP Q P)), arI X (g 5) 20 (Pd (cpP Q P)), oX3 (a 0) (a 1) (a 2) (Pn P), arN X (a 1) 6 b, oX0 (a 2) (a 3) (a 4) (a 5) (Px P) (Pk P), arI X (a 3) 20 (Pa P), arI X (a 4) 20 (Pb P), arI X (a 5) 20 (Pd P)] ++ ((lsW q (PL (cpP Q P))) ++ ((lsW b (PL P))))) rfl dX1_remember_67 (fun H locs hw => ?_)
        exact lo_vret E hRt hLk hK hAe hw dX1_remember_70 rfl ⟨rfl, by first | (exfalso; omega) | (rw [show (nx + 1) % 8 = 0 by omega]) | (rw [show (nx + 1) % 8 = nx + 1 by omega])⟩
      · skip
        refine lv_iconst (v := iI 0) Ex Eb dX1_remember_42 rfl ?_
        refine lv_goto (tgt := 52) Ex Eb dX1_remember_43 (by decide) ?_
        refine lo_put E hK hw huRX1 tyX1 tyX1_ok nmX1 1 hf17 rfl 0 rfl rfl (by decide) rfl rfl rfl rfl (Nat.le_of_ble_eq_true rfl) (ws' := [oX1 h hp 0 kp, arP X hp 8 f, oX3 (g 0) (g 1) (g 2) (Pn (cpP Q P)), arN X (g 1) 6 q, oX0 (g 2) (g 3) (g 4) (g 5) (Px (cpP Q P)) (Pk (cpP Q P)), arI X (g 3) 20 (Pa (cpP Q P)), arI X (g 4) 20 (Pb (cpP Q P)), arI X (g 5) 20 (Pd (cpP Q P)), oX3 (a 0) (a 1) (a 2) (Pn P), arN X (a 1) 6 b, oX0 (a 2) (a 3) (a 4) (a 5) (Px P) (Pk P), arI X (a 3) 20 (Pa P), arI X (a 4) 20 (Pb P), arI X (a 5) 20 (Pd P)] ++ ((lsW q (PL (cpP Q P))) ++ ((lsW b (PL P))))) rfl dX1_remember_52 (fun H locs hw => ?_)
        refine lv_aload_n Ex Eb dX1_remember_55 rfl (lv_at hl 0 rfl) ?_
        refine lv_aload_n Ex Eb dX1_remember_56 rfl (lv_at hl 0 rfl) ?_
        refine lo_get E hK hw huRX1 2 hf21 rfl 0 rfl rfl (by decide) (v := .int (iI kp)) rfl dX1_remember_57 ?_
        refine lv_iconst (v := iI 1) Ex Eb dX1_remember_60 rfl ?_
        refine lo_iadd E dX1_remember_61 ?_
        refine lv_bipush (v := iI 8) Ex Eb dX1_remember_62 rfl ?_
        refine lo_mmin E hl.1 hl29 hstmin hmath hcdmin (Nat.le_of_ble_eq_true rfl) (Nat.le_of_ble_eq_true rfl) (Nat.le_of_ble_eq_true rfl) (Nat.le_of_ble_eq_true rfl) (by omega) (by omega) dX1_remember_64 ?_
        refine lo_put E hK hw huRX1 tyX1 tyX1_ok nmX1 2 hf21 rfl 0 rfl rfl (by decide) rfl rfl rfl rfl (Nat.le_of_ble_eq_true rfl) (ws' := [oX1 h hp 0 (min (kp + 1) 8), arP X hp 8 f, oX3 (g 0) (g 1) (g 2) (Pn (cpP Q P)), arN X (g 1) 6 q, oX0 (g 2) (g 3) (g 4) (g 5) (Px (cpP Q P)) (Pk (cpP Q P)), arI X (g 3) 20 (Pa (cpP Q P)), arI X (g 4) 20 (Pb (cpP Q P)), arI X (g 5) 20 (Pd (cpP Q P)), oX3 (a 0) (a 1) (a 2) (Pn P), arN X (a 1) 6 b, oX0 (a 2) (a 3) (a 4) (a 5) (Px P) (Pk P), arI X (a 3) 20 (Pa P), arI X (a 4) 20 (Pb P), arI X (a 5) 20 (Pd P)] ++ ((lsW q (PL (cpP Q P))) ++ ((lsW b (PL P))))) rfl dX1_remember_67 (fun H locs hw => ?_)
        exact lo_vret E hRt hLk hK hAe hw dX1_remember_70 rfl ⟨rfl, by first | (exfalso; omega) | (rw [show (nx + 1) % 8 = 0 by omega]) | (rw [show (nx + 1) % 8 = nx + 1 by omega])⟩
    · exact absurd c2 (by omega)
