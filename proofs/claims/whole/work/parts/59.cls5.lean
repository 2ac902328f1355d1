set_option maxHeartbeats 4000000 in
set_option maxRecDepth 100000 in
theorem kX7_undo (l : Launch) (X : KX) (xo xi xh xs xr xt xl xa xc : Nat) (isz sv : Int) (hp : Nat) (f : Nat → Nat) (nx kp : Int) (g q : Nat → Nat) (Q : PT) (a b : Nat → Nat) (P : PT) (hnx : 0 ≤ nx ∧ nx < 8) (hkp : 0 ≤ kp ∧ kp ≤ 8) (hf : f ((nx - 1) % 8).toNat = g 0) (hPI : PI Q) : CM l X yX7_undo wsX7_undo ({ frames := 4, cells := 0, slots := 0, locals := 125 }) [.ref xo] ([oX7 xo xi isz (a 0) xh xs sv xr xt xl xa xc, oX1 xh hp nx kp, arP X hp 8 f, oX3 (a 0) (a 1) (a 2) (Pn P), arN X (a 1) 6 b, oX0 (a 2) (a 3) (a 4) (a 5) (Px P) (Pk P), arI X (a 3) 20 (Pa P), arI X (a 4) 20 (Pb P), arI X (a 5) 20 (Pd P), oX3 (g 0) (g 1) (g 2) (Pn Q), arN X (g 1) 6 q, oX0 (g 2) (g 3) (g 4) (g 5) (Px Q) (Pk Q), arI X (g 3) 20 (Pa Q), arI X (g 4) 20 (Pb Q), arI X (g 5) 20 (Pd Q)] ++ ((lsW b (PL P)) ++ ((lsW q (PL Q))))) (fun v9 w9 => ∃ P9 : PT, ∃ n9 : Int, ∃ k9 : Int, ∃ z : Int, ((kp = 0 ∧ z = -1 ∧ P9 = P ∧ n9 = nx ∧ k9 = kp) ∨ (1 ≤ kp ∧ z = kp - 1 ∧ P9 = cpP P Q ∧ n9 = (nx - 1) % 8 ∧ k9 = kp - 1)) ∧ v9 = some (.int (iI z)) ∧ w9 = [oX7 xo xi isz (a 0) xh xs sv xr xt xl xa xc, oX1 xh hp n9 k9, arP X hp 8 f, oX3 (a 0) (a 1) (a 2) (Pn P9), arN X (a 1) 6 b, oX0 (a 2) (a 3) (a 4) (a 5) (Px P9) (Pk P9), arI X (a 3) 20 (Pa P9), arI X (a 4) 20 (Pb P9), arI X (a 5) 20 (Pd P9), oX3 (g 0) (g 1) (g 2) (Pn Q), arN X (g 1) 6 q, oX0 (g 2) (g 3) (g 4) (g 5) (Px Q) (Pk Q), arI X (g 3) 20 (Pa Q), arI X (g 4) 20 (Pb Q), arI X (g 5) 20 (Pd Q)] ++ ((lsW b (PL P9)) ++ ((lsW q (PL Q))))) 0 0 := by
  refine lo_enter (cc := cX7_undo) (maxL := 1) (ret := (some .int)) (lv := [(0, .ref xo)]) (by decide) rfl rfl (Nat.le_of_ble_eq_true rfl) ?_
  intro p9 e9 s9 m9 bl9 me9 c9 A9 ls hAe E hRt hLk hK hl hw
  have Ex := E.1
  have Eb := E.2.1
  have huRX7 : ∀ w ∈ u_ws RX7 TX7 11, w ∈ wsX7_undo := by decide +kernel
  have hf27 : (Cond.fieldLink RX7 27 "LoanSchedule" "history" "LLoanSchedule$History;").before _ s9 = true := E.2.2.2.2 _ (List.mem_of_getElem? (i := 1) rfl)
  have hf20 : (Cond.fieldLink RX7 20 "LoanSchedule" "plan" "LLoanSchedule$Plan;").before _ s9 = true := E.2.2.2.2 _ (List.mem_of_getElem? (i := 2) rfl)
  have huRX1 : ∀ w ∈ u_ws RX1 TX1 3, w ∈ wsX7_undo := by decide +kernel
  have hf167 : (Cond.fieldLink RX7 167 "LoanSchedule$History" "kept" "I").before _ s9 = true := E.2.2.2.2 _ (List.mem_of_getElem? (i := 3) rfl)
  refine lv_aload_n Ex Eb dX7_undo_0 rfl (lv_at hl 0 rfl) ?_
  refine lo_get E hK hw huRX7 3 hf27 rfl 0 rfl rfl (by decide) (v := .ref xh) rfl dX7_undo_1 ?_
  refine lv_aload_n Ex Eb dX7_undo_4 rfl (lv_at hl 0 rfl) ?_
  refine lo_get E hK hw huRX7 2 hf20 rfl 0 rfl rfl (by decide) (v := .ref (a 0)) rfl dX7_undo_5 ?_
  have hw : lo_Wd X (([oX7 xo xi isz (a 0) xh xs sv xr xt xl xa xc]) ++ ([oX1 xh hp nx kp, arP X hp 8 f, oX3 (a 0) (a 1) (a 2) (Pn P), arN X (a 1) 6 b, oX0 (a 2) (a 3) (a 4) (a 5) (Px P) (Pk P), arI X (a 3) 20 (Pa P), arI X (a 4) 20 (Pb P), arI X (a 5) 20 (Pd P), oX3 (g 0) (g 1) (g 2) (Pn Q), arN X (g 1) 6 q, oX0 (g 2) (g 3) (g 4) (g 5) (Px Q) (Pk Q), arI X (g 3) 20 (Pa Q), arI X (g 4) 20 (Pb Q), arI X (g 5) 20 (Pd Q)] ++ ((lsW b (PL P)) ++ ((lsW q (PL Q)))))) A9 s9.heap _ _ := hw
  refine lo_callV (q0 := 1) (rest := []) E hK hw (kX1_takeBack l X xh hp f nx kp g q a b Q P (hnx) (hkp) (hf) (hPI)) (cwV 1 E.2.2.2.2 gX7_undo_X1_takeBack rfl rfl rfl (by decide +kernel) ⟨Nat.le_of_ble_eq_true rfl, Nat.le_of_ble_eq_true rfl⟩) rfl rfl (List.range' 1 26) (lo_ps_tail (pre := [oX7 xo xi isz (a 0) xh xs sv xr xt xl xa xc]) rfl rfl) (by decide +kernel) hl.1 rfl rfl (Nat.le_of_ble_eq_true rfl) dX7_undo_8 ⟨Nat.le_of_ble_eq_true rfl, Nat.le_of_ble_eq_true rfl⟩ (fun v w1 H locs hq hw => ?_)
  obtain ⟨Pu, nu, ku, zu, q8_0, rfl, rfl⟩ := hq
  have hw := lo_cast (lo_sets_tail (n := 26) (k := 1) (pre := [oX7 xo xi isz (a 0) xh xs sv xr xt xl xa xc]) (w0 := [oX1 xh hp nx kp, arP X hp 8 f, oX3 (a 0) (a 1) (a 2) (Pn P), arN X (a 1) 6 b, oX0 (a 2) (a 3) (a 4) (a 5) (Px P) (Pk P), arI X (a 3) 20 (Pa P), arI X (a 4) 20 (Pb P), arI X (a 5) 20 (Pd P), oX3 (g 0) (g 1) (g 2) (Pn Q), arN X (g 1) 6 q, oX0 (g 2) (g 3) (g 4) (g 5) (Px Q) (Pk Q), arI X (g 3) 20 (Pa Q), arI X (g 4) 20 (Pb Q), arI X (g 5) 20 (Pd Q)] ++ ((lsW b (PL P)) ++ ((lsW q (PL Q))))) (w1 := [oX1 xh hp nu ku, arP X hp 8 f, oX3 (a 0) (a 1) (a 2) (Pn Pu), arN X (a 1) 6 b, oX0 (a 2) (a 3) (a 4) (a 5) (Px Pu) (Pk Pu), arI X (a 3) 20 (Pa Pu), arI X (a 4) 20 (Pb Pu), arI X (a 5) 20 (Pd Pu), oX3 (g 0) (g 1) (g 2) (Pn Q), arN X (g 1) 6 q, oX0 (g 2) (g 3) (g 4) (g 5) (Px Q) (Pk Q), arI X (g 3) 20 (Pa Q), arI X (g 4) 20 (Pb Q), arI X (g 5) 20 (Pd Q)] ++ ((lsW b (PL Pu)) ++ ((lsW q (PL Q))))) rfl rfl rfl) hw
  have hw : lo_Wd X ([oX7 xo xi isz (a 0) xh xs sv xr xt xl xa xc, oX1 xh hp nu ku, arP X hp 8 f, oX3 (a 0) (a 1) (a 2) (Pn Pu), arN X (a 1) 6 b, oX0 (a 2) (a 3) (a 4) (a 5) (Px Pu) (Pk Pu), arI X (a 3) 20 (Pa Pu), arI X (a 4) 20 (Pb Pu), arI X (a 5) 20 (Pd Pu), oX3 (g 0) (g 1) (g 2) (Pn Q), arN X (g 1) 6 q, oX0 (g 2) (g 3) (g 4) (g 5) (Px Q) (Pk Q), arI X (g 3) 20 (Pa Q), arI X (g 4) 20 (Pb Q), arI X (g 5) 20 (Pd Q)] ++ ((lsW b (PL Pu)) ++ ((lsW q (PL Q))))) A9 s9.heap H locs := hw
  refine W.eq (g2 := F0 m9 11 ls [.int (iI zu)]) rfl ?_
  refine lo_if_ne (tgt := 16) E dX7_undo_11 (by decide) (by omega) (fun c1 => ?_) (fun c1 => ?_)
  · skip
    refine lv_aload_n Ex Eb dX7_undo_16 rfl (lv_at hl 0 rfl) ?_
    refine lo_get E hK hw huRX7 3 hf27 rfl 0 rfl rfl (by decide) (v := .ref xh) rfl dX7_undo_17 ?_
    refine lo_get E hK hw huRX1 2 hf167 rfl 1 rfl rfl (by decide) (v := .int (iI ku)) rfl dX7_undo_20 ?_
    exact lo_iret E hRt hLk hK hAe hw dX7_undo_23 rfl ⟨Pu, nu, ku, ku, (by rcases q8_0 with ⟨g1, g2, g3, g4, g5⟩ | ⟨g1, g2, g3, g4, g5⟩ <;> first | (exfalso; omega) | exact Or.inl ⟨by omega, by omega, g3, g4, g5⟩ | exact Or.inr ⟨by omega, by omega, g3, g4, g5⟩), rfl, rfl⟩
  · skip
    refine lv_iconst (v := iI (-1)) Ex Eb dX7_undo_14 rfl ?_
    exact lo_iret E hRt hLk hK hAe hw dX7_undo_15 rfl ⟨Pu, nu, ku, -1, (by rcases q8_0 with ⟨g1, g2, g3, g4, g5⟩ | ⟨g1, g2, g3, g4, g5⟩ <;> first | (exfalso; omega) | exact Or.inl ⟨by omega, by omega, g3, g4, g5⟩ | exact Or.inr ⟨by omega, by omega, g3, g4, g5⟩), rfl, rfl⟩
set_option maxHeartbeats 4000000 in
set_option maxRecDepth 100000 in
theorem kX7_undoCount (l : Launch) (X : KX) (xo xi xh xs xr xt xl xa xc : Nat) (isz sv : Int) (xp hp : Nat) (nx kp : Int) : CM l X yX7_undoCount wsX7_undoCount ({ frames := 0, cells := 0, slots := 0, locals := 0 }) [.ref xo] ([oX7 xo xi isz xp xh xs sv xr xt xl xa xc, oX1 xh hp nx kp]) (fun v9 w9 => v9 = some (.int (iI kp)) ∧ w9 = [oX7 xo xi isz xp xh xs sv xr xt xl xa xc, oX1 xh hp nx kp]) 0 0 := by
  refine lo_enter (cc := cX7_undoCount) (maxL := 1) (ret := (some .int)) (lv := [(0, .ref xo)]) (by decide) rfl rfl (Nat.le_of_ble_eq_true rfl) ?_
  intro p9 e9 s9 m9 bl9 me9 c9 A9 ls hAe E hRt hLk hK hl hw
  have Ex := E.1
  have Eb := E.2.1
  have huRX7 : ∀ w ∈ u_ws RX7 TX7 11, w ∈ wsX7_undoCount := by decide +kernel
  have hf27 : (Cond.fieldLink RX7 27 "LoanSchedule" "history" "LLoanSchedule$History;").before _ s9 = true := E.2.2.2.2 _ (List.mem_of_getElem? (i := 1) rfl)
  have huRX1 : ∀ w ∈ u_ws RX1 TX1 3, w ∈ wsX7_undoCount := by decide +kernel
  have hf167 : (Cond.fieldLink RX7 167 "LoanSchedule$History" "kept" "I").before _ s9 = true := E.2.2.2.2 _ (List.mem_of_getElem? (i := 2) rfl)
  refine lv_aload_n Ex Eb dX7_undoCount_0 rfl (lv_at hl 0 rfl) ?_
  refine lo_get E hK hw huRX7 3 hf27 rfl 0 rfl rfl (by decide) (v := .ref xh) rfl dX7_undoCount_1 ?_
  refine lo_get E hK hw huRX1 2 hf167 rfl 1 rfl rfl (by decide) (v := .int (iI kp)) rfl dX7_undoCount_4 ?_
  exact lo_iret E hRt hLk hK hAe hw dX7_undoCount_7 rfl ⟨rfl, rfl⟩
set_option maxHeartbeats 4000000 in
set_option maxRecDepth 100000 in
theorem kX7_saveSnapshot (l : Launch) (X : KX) (xo xi xh xs xr xt xl xa xc : Nat) (isz sv : Int) (s s2 : Nat → Nat) (S : PT) (a b : Nat → Nat) (P : PT) (hPI : PI P) : CM l X yX7_saveSnapshot wsX7_saveSnapshot ({ frames := 3, cells := 0, slots := 0, locals := 103 }) [.ref xo] ([oX7 xo xi isz (a 0) xh (s 0) sv xr xt xl xa xc, oX3 (s 0) (s 1) (s 2) (Pn S), arN X (s 1) 6 s2, oX0 (s 2) (s 3) (s 4) (s 5) (Px S) (Pk S), arI X (s 3) 20 (Pa S), arI X (s 4) 20 (Pb S), arI X (s 5) 20 (Pd S), oX3 (a 0) (a 1) (a 2) (Pn P), arN X (a 1) 6 b, oX0 (a 2) (a 3) (a 4) (a 5) (Px P) (Pk P), arI X (a 3) 20 (Pa P), arI X (a 4) 20 (Pb P), arI X (a 5) 20 (Pd P)] ++ ((lsW s2 (PL S)) ++ ((lsW b (PL P))))) (fun v9 w9 => v9 = some (.int (iI (Pn P))) ∧ w9 = [oX7 xo xi isz (a 0) xh (s 0) 1 xr xt xl xa xc, oX3 (s 0) (s 1) (s 2) (Pn (cpP S P)), arN X (s 1) 6 s2, oX0 (s 2) (s 3) (s 4) (s 5) (Px (cpP S P)) (Pk (cpP S P)), arI X (s 3) 20 (Pa (cpP S P)), arI X (s 4) 20 (Pb (cpP S P)), arI X (s 5) 20 (Pd (cpP S P)), oX3 (a 0) (a 1) (a 2) (Pn P), arN X (a 1) 6 b, oX0 (a 2) (a 3) (a 4) (a 5) (Px P) (Pk P), arI X (a 3) 20 (Pa P), arI X (a 4) 20 (Pb P), arI X (a 5) 20 (Pd P)] ++ ((lsW s2 (PL (cpP S P))) ++ ((lsW b (PL P))))) 0 0 := by
  refine lo_enter (cc := cX7_saveSnapshot) (maxL := 1) (ret := (some .int)) (lv := [(0, .ref xo)]) (by decide) rfl rfl (Nat.le_of_ble_eq_true rfl) ?_
  intro p9 e9 s9 m9 bl9 me9 c9 A9 ls hAe E hRt hLk hK hl hw
  have Ex := E.1
  have Eb := E.2.1
  have huRX7 : ∀ w ∈ u_ws RX7 TX7 11, w ∈ wsX7_saveSnapshot := by decide +kernel
  have hf31 : (Cond.fieldLink RX7 31 "LoanSchedule" "snapshot" "LLoanSchedule$Plan;").before _ s9 = true := E.2.2.2.2 _ (List.mem_of_getElem? (i := 1) rfl)
  have hf20 : (Cond.fieldLink RX7 20 "LoanSchedule" "plan" "LLoanSchedule$Plan;").before _ s9 = true := E.2.2.2.2 _ (List.mem_of_getElem? (i := 2) rfl)
  have hf34 : (Cond.fieldLink RX7 34 "LoanSchedule" "snapshotSaved" "Z").before _ s9 = true := E.2.2.2.2 _ (List.mem_of_getElem? (i := 3) rfl)
  have huRX3 : ∀ w ∈ u_ws RX3 TX3 3, w ∈ wsX7_saveSnapshot := by decide +kernel
  have hf100 : (Cond.fieldLink RX7 100 "LoanSchedule$Plan" "count" "I").before _ s9 = true := E.2.2.2.2 _ (List.mem_of_getElem? (i := 4) rfl)
  refine lv_aload_n Ex Eb dX7_saveSnapshot_0 rfl (lv_at hl 0 rfl) ?_
  refine lo_get E hK hw huRX7 4 hf31 rfl 0 rfl rfl (by decide) (v := .ref (s 0)) rfl dX7_saveSnapshot_1 ?_
  refine lv_aload_n Ex Eb dX7_saveSnapshot_4 rfl (lv_at hl 0 rfl) ?_
  refine lo_get E hK hw huRX7 2 hf20 rfl 0 rfl rfl (by decide) (v := .ref (a 0)) rfl dX7_saveSnapshot_5 ?_
  have hw : lo_Wd X (([oX7 xo xi isz (a 0) xh (s 0) sv xr xt xl xa xc]) ++ ([oX3 (s 0) (s 1) (s 2) (Pn S), arN X (s 1) 6 s2, oX0 (s 2) (s 3) (s 4) (s 5) (Px S) (Pk S), arI X (s 3) 20 (Pa S), arI X (s 4) 20 (Pb S), arI X (s 5) 20 (Pd S), oX3 (a 0) (a 1) (a 2) (Pn P), arN X (a 1) 6 b, oX0 (a 2) (a 3) (a 4) (a 5) (Px P) (Pk P), arI X (a 3) 20 (Pa P), arI X (a 4) 20 (Pb P), arI X (a 5) 20 (Pd P)] ++ ((lsW s2 (PL S)) ++ ((lsW b (PL P)))))) A9 s9.heap _ _ := hw
  refine lo_callV (q0 := 1) (rest := []) E hK hw (kX3_copyFrom l X s s2 a b S P (hPI)) (cwV 1 E.2.2.2.2 gX7_saveSnapshot_X3_copyFrom rfl rfl rfl (by decide +kernel) ⟨Nat.le_of_ble_eq_true rfl, Nat.le_of_ble_eq_true rfl⟩) rfl rfl (List.range' 1 24) (lo_ps_tail (pre := [oX7 xo xi isz (a 0) xh (s 0) sv xr xt xl xa xc]) rfl rfl) (by decide +kernel) hl.1 rfl rfl (Nat.le_of_ble_eq_true rfl) dX7_saveSnapshot_8 ⟨Nat.le_of_ble_eq_true rfl, Nat.le_of_ble_eq_true rfl⟩ (fun v w1 H locs hq hw => ?_)
  obtain ⟨rfl, rfl⟩ := hq
  have hw := lo_cast (lo_sets_tail (n := 24) (k := 1) (pre := [oX7 xo xi isz (a 0) xh (s 0) sv xr xt xl xa xc]) (w0 := [oX3 (s 0) (s 1) (s 2) (Pn S), arN X (s 1) 6 s2, oX0 (s 2) (s 3) (s 4) (s 5) (Px S) (Pk S), arI X (s 3) 20 (Pa S), arI X (s 4) 20 (Pb S), arI X (s 5) 20 (Pd S), oX3 (a 0) (a 1) (a 2) (Pn P), arN X (a 1) 6 b, oX0 (a 2) (a 3) (a 4) (a 5) (Px P) (Pk P), arI X (a 3) 20 (Pa P), arI X (a 4) 20 (Pb P), arI X (a 5) 20 (Pd P)] ++ ((lsW s2 (PL S)) ++ ((lsW b (PL P))))) (w1 := [oX3 (s 0) (s 1) (s 2) (Pn (cpP S P)), arN X (s 1) 6 s2, oX0 (s 2) (s 3) (s 4) (s 5) (Px (cpP S P)) (Pk (cpP S P)), arI X (s 3) 20 (Pa (cpP S P)), arI X (s 4) 20 (Pb (cpP S P)), arI X (s 5) 20 (Pd (cpP S P)), oX3 (a 0) (a 1) (a 2) (Pn P), arN X (a 1) 6 b, oX0 (a 2) (a 3) (a 4) (a 5) (Px P) (Pk P), arI X (a 3) 20 (Pa P), arI X (a 4) 20 (Pb P), arI X (a 5) 20 (Pd P)] ++ ((lsW s2 (PL (cpP S P))) ++ ((lsW b (PL P))))) rfl rfl rfl) hw
  have hw : lo_Wd X ([oX7 xo xi isz (a 0) xh (s 0) sv xr xt xl xa xc, oX3 (s 0) (s 1) (s 2) (Pn (cpP S P)), arN X (s 1) 6 s2, oX0 (s 2) (s 3) (s 4) (s 5) (Px (cpP S P)) (Pk (cpP S P)), arI X (s 3) 20 (Pa (cpP S P)), arI X (s 4) 20 (Pb (cpP S P)), arI X (s 5) 20 (Pd (cpP S P)), oX3 (a 0) (a 1) (a 2) (Pn P), arN X (a 1) 6 b, oX0 (a 2) (a 3) (a 4) (a 5) (Px P) (Pk P), arI X (a 3) 20 (Pa P), arI X (a 4) 20 (Pb P), arI X (a 5) 20 (Pd P)] ++ ((lsW s2 (PL (cpP S P))) ++ ((lsW b (PL P))))) A9 s9.heap H locs := hw
  refine W.eq (g2 := F0 m9 11 ls []) rfl ?_
  refine lv_aload_n Ex Eb dX7_saveSnapshot_11 rfl (lv_at hl 0 rfl) ?_
  refine lv_iconst (v := iI 1) Ex Eb dX7_saveSnapshot_12 rfl ?_
  refine lo_put E hK hw huRX7 tyX7 tyX7_ok nmX7 5 hf34 rfl 0 rfl rfl (by decide) rfl rfl rfl rfl (Nat.le_of_ble_eq_true rfl) (ws' := [oX7 xo xi isz (a 0) xh (s 0) 1 xr xt xl xa xc, oX3 (s 0) (s 1) (s 2) (Pn (cpP S P)), arN X (s 1) 6 s2, oX0 (s 2) (s 3) (s 4) (s 5) (Px (cpP S P)) (Pk (cpP S P)), arI X (s 3) 20 (Pa (cpP S P)), arI X (s 4) 20 (Pb (cpP S P)), arI X (s 5) 20 (Pd (cpP S P)), oX3 (a 0) (a 1) (a 2) (Pn P), arN X (a 1) 6 b, oX0 (a 2) (a 3) (a 4) (a 5) (Px P) (Pk P), arI X (a 3) 20 (Pa P), arI X (a 4) 20 (Pb P), arI X (a 5) 20 (Pd P)] ++ ((lsW s2 (PL (cpP S P))) ++ ((lsW b (PL P))))) rfl dX7_saveSnapshot_13 (fun H locs hw => ?_)
  refine lv_aload_n Ex Eb dX7_saveSnapshot_16 rfl (lv_at hl 0 rfl) ?_
  refine lo_get E hK hw huRX7 2 hf20 rfl 0 rfl rfl (by decide) (v := .ref (a 0)) rfl dX7_saveSnapshot_17 ?_
  refine lo_get E hK hw huRX3 2 hf100 rfl 7 rfl rfl (by decide) (v := .int (iI (Pn P))) rfl dX7_saveSnapshot_20 ?_
  exact lo_iret E hRt hLk hK hAe hw dX7_saveSnapshot_23 rfl ⟨rfl, rfl⟩
set_option maxHeartbeats 4000000 in
set_option maxRecDepth 100000 in
theorem kX7_restoreSnapshot (l : Launch) (X : KX) (kS : Nat → Nat) (hst : l.stackTraces = false) (xo xi xh xs xr xt xl xa xc : Nat) (isz sv : Int) (hp : Nat) (nx kp : Int) (s s2 : Nat → Nat) (S : PT) (a b : Nat → Nat) (P : PT) (hPI : PI S) (hsv : sv = 0 ∨ sv = 1) : CT l X kS yX7_restoreSnapshot wsX7_restoreSnapshot ({ frames := 6, cells := 1, slots := 6, locals := 103 }) [.ref xo] ([oX7 xo xi isz (a 0) xh (s 0) sv xr xt xl xa xc, oX1 xh hp nx kp, oX3 (a 0) (a 1) (a 2) (Pn P), arN X (a 1) 6 b, oX0 (a 2) (a 3) (a 4) (a 5) (Px P) (Pk P), arI X (a 3) 20 (Pa P), arI X (a 4) 20 (Pb P), arI X (a 5) 20 (Pd P), oX3 (s 0) (s 1) (s 2) (Pn S), arN X (s 1) 6 s2, oX0 (s 2) (s 3) (s 4) (s 5) (Px S) (Pk S), arI X (s 3) 20 (Pa S), arI X (s 4) 20 (Pb S), arI X (s 5) 20 (Pd S)] ++ ((lsW b (PL P)) ++ ((lsW s2 (PL S))))) (fun v9 w9 => (sv = 1) ∧ v9 = some (.int (iI (Pn (cpP P S)))) ∧ w9 = [oX7 xo xi isz (a 0) xh (s 0) sv xr xt xl xa xc, oX1 xh hp nx 0, oX3 (a 0) (a 1) (a 2) (Pn (cpP P S)), arN X (a 1) 6 b, oX0 (a 2) (a 3) (a 4) (a 5) (Px (cpP P S)) (Pk (cpP P S)), arI X (a 3) 20 (Pa (cpP P S)), arI X (a 4) 20 (Pb (cpP P S)), arI X (a 5) 20 (Pd (cpP P S)), oX3 (s 0) (s 1) (s 2) (Pn S), arN X (s 1) 6 s2, oX0 (s 2) (s 3) (s 4) (s 5) (Px S) (Pk S), arI X (s 3) 20 (Pa S), arI X (s 4) 20 (Pb S), arI X (s 5) 20 (Pd S)] ++ ((lsW b (PL (cpP P S))) ++ ((lsW s2 (PL S))))) (fun E9 w9 => (E9 = "java/util/NoSuchElementException") ∧ (sv = 0) ∧ w9 = [oX7 xo xi isz (a 0) xh (s 0) sv xr xt xl xa xc, oX1 xh hp nx kp, oX3 (a 0) (a 1) (a 2) (Pn P), arN X (a 1) 6 b, oX0 (a 2) (a 3) (a 4) (a 5) (Px P) (Pk P), arI X (a 3) 20 (Pa P), arI X (a 4) 20 (Pb P), arI X (a 5) 20 (Pd P), oX3 (s 0) (s 1) (s 2) (Pn S), arN X (s 1) 6 s2, oX0 (s 2) (s 3) (s 4) (s 5) (Px S) (Pk S), arI X (s 3) 20 (Pa S), arI X (s 4) 20 (Pb S), arI X (s 5) 20 (Pd S)] ++ ((lsW b (PL P)) ++ ((lsW s2 (PL S))))) 1 6 := by
  refine lo_enterT (cc := cX7_restoreSnapshot) (maxL := 1) (ret := (some .int)) (lv := [(0, .ref xo)]) (by decide) rfl rfl (Nat.le_of_ble_eq_true rfl) ?_
  intro p9 e9 s9 m9 bl9 me9 c9 A9 ls hAe E hRt hLk hK hl hw hV hT9
  have Ex := E.1
  have Eb := E.2.1
  have huRX7 : ∀ w ∈ u_ws RX7 TX7 11, w ∈ wsX7_restoreSnapshot := by decide +kernel
  have hf34 : (Cond.fieldLink RX7 34 "LoanSchedule" "snapshotSaved" "Z").before _ s9 = true := E.2.2.2.2 _ (List.mem_of_getElem? (i := 3) rfl)
  have hf20 : (Cond.fieldLink RX7 20 "LoanSchedule" "plan" "LLoanSchedule$Plan;").before _ s9 = true := E.2.2.2.2 _ (List.mem_of_getElem? (i := 4) rfl)
  have hf31 : (Cond.fieldLink RX7 31 "LoanSchedule" "snapshot" "LLoanSchedule$Plan;").before _ s9 = true := E.2.2.2.2 _ (List.mem_of_getElem? (i := 5) rfl)
  have hf27 : (Cond.fieldLink RX7 27 "LoanSchedule" "history" "LLoanSchedule$History;").before _ s9 = true := E.2.2.2.2 _ (List.mem_of_getElem? (i := 6) rfl)
  have huRX3 : ∀ w ∈ u_ws RX3 TX3 3, w ∈ wsX7_restoreSnapshot := by decide +kernel
  have hf100 : (Cond.fieldLink RX7 100 "LoanSchedule$Plan" "count" "I").before _ s9 = true := E.2.2.2.2 _ (List.mem_of_getElem? (i := 7) rfl)
  have hk170 : (Cond.classLink RX7 170 "java/util/NoSuchElementException").before _ s9 = true := E.2.2.2.2 _ (List.mem_of_getElem? (i := 1) rfl)
  have hin170 : (Cond.initialized "java/util/NoSuchElementException").before _ s9 = true := E.2.2.2.2 _ (List.mem_of_getElem? (i := 2) rfl)
  refine lv_aload_n Ex Eb dX7_restoreSnapshot_0 rfl (lv_at hl 0 rfl) ?_
  refine lo_get E hK hw huRX7 5 hf34 rfl 0 rfl rfl (by decide) (v := .int (iI sv)) rfl dX7_restoreSnapshot_1 ?_
  refine lo_if_ne (tgt := 15) E dX7_restoreSnapshot_4 (by decide) (by omega) (fun c1 => ?_) (fun c1 => ?_)
  · skip
    refine lv_aload_n Ex Eb dX7_restoreSnapshot_15 rfl (lv_at hl 0 rfl) ?_
    refine lo_get E hK hw huRX7 2 hf20 rfl 0 rfl rfl (by decide) (v := .ref (a 0)) rfl dX7_restoreSnapshot_16 ?_
    refine lv_aload_n Ex Eb dX7_restoreSnapshot_19 rfl (lv_at hl 0 rfl) ?_
    refine lo_get E hK hw huRX7 4 hf31 rfl 0 rfl rfl (by decide) (v := .ref (s 0)) rfl dX7_restoreSnapshot_20 ?_
    have hw : lo_Wd X (([oX7 xo xi isz (a 0) xh (s 0) sv xr xt xl xa xc, oX1 xh hp nx kp]) ++ ([oX3 (a 0) (a 1) (a 2) (Pn P), arN X (a 1) 6 b, oX0 (a 2) (a 3) (a 4) (a 5) (Px P) (Pk P), arI X (a 3) 20 (Pa P), arI X (a 4) 20 (Pb P), arI X (a 5) 20 (Pd P), oX3 (s 0) (s 1) (s 2) (Pn S), arN X (s 1) 6 s2, oX0 (s 2) (s 3) (s 4) (s 5) (Px S) (Pk S), arI X (s 3) 20 (Pa S), arI X (s 4) 20 (Pb S), arI X (s 5) 20 (Pd S)] ++ ((lsW b (PL P)) ++ ((lsW s2 (PL S)))))) A9 s9.heap _ _ := hw
    refine lo_callV (q0 := 2) (rest := []) E hK hw (kX3_copyFrom l X a b s s2 P S (hPI)) (cwV 1 E.2.2.2.2 gX7_restoreSnapshot_X3_copyFrom rfl rfl rfl (by decide +kernel) ⟨Nat.le_of_ble_eq_true rfl, Nat.le_of_ble_eq_true rfl⟩) rfl rfl (List.range' 2 24) (lo_ps_tail (pre := [oX7 xo xi isz (a 0) xh (s 0) sv xr xt xl xa xc, oX1 xh hp nx kp]) rfl rfl) (by decide +kernel) hl.1 rfl rfl (Nat.le_of_ble_eq_true rfl) dX7_restoreSnapshot_23 ⟨Nat.le_of_ble_eq_true rfl, Nat.le_of_ble_eq_true rfl⟩ (fun v w1 H locs hq hw => ?_)
    obtain ⟨rfl, rfl⟩ := hq
    have hw := lo_cast (lo_sets_tail (n := 24) (k := 2) (pre := [oX7 xo xi isz (a 0) xh (s 0) sv xr xt xl xa xc, oX1 xh hp nx kp]) (w0 := [oX3 (a 0) (a 1) (a 2) (Pn P), arN X (a 1) 6 b, oX0 (a 2) (a 3) (a 4) (a 5) (Px P) (Pk P), arI X (a 3) 20 (Pa P), arI X (a 4) 20 (Pb P), arI X (a 5) 20 (Pd P), oX3 (s 0) (s 1) (s 2) (Pn S), arN X (s 1) 6 s2, oX0 (s 2) (s 3) (s 4) (s 5) (Px S) (Pk S), arI X (s 3) 20 (Pa S), arI X (s 4) 20 (Pb S), arI X (s 5) 20 (Pd S)] ++ ((lsW b (PL P)) ++ ((lsW s2 (PL S))))) (w1 := [oX3 (a 0) (a 1) (a 2) (Pn (cpP P S)), arN X (a 1) 6 b, oX0 (a 2) (a 3) (a 4) (a 5) (Px (cpP P S)) (Pk (cpP P S)), arI X (a 3) 20 (Pa (cpP P S)), arI X (a 4) 20 (Pb (cpP P S)), arI X (a 5) 20 (Pd (cpP P S)), oX3 (s 0) (s 1) (s 2) (Pn S), arN X (s 1) 6 s2, oX0 (s 2) (s 3) (s 4) (s 5) (Px S) (Pk S), arI X (s 3) 20 (Pa S), arI X (s 4) 20 (Pb S), arI X (s 5) 20 (Pd S)] ++ ((lsW b (PL (cpP P S))) ++ ((lsW s2 (PL S))))) rfl rfl rfl) hw
    have hw : lo_Wd X ([oX7 xo xi isz (a 0) xh (s 0) sv xr xt xl xa xc, oX1 xh hp nx kp, oX3 (a 0) (a 1) (a 2) (Pn (cpP P S)), arN X (a 1) 6 b, oX0 (a 2) (a 3) (a 4) (a 5) (Px (cpP P S)) (Pk (cpP P S)), arI X (a 3) 20 (Pa (cpP P S)), arI X (a 4) 20 (Pb (cpP P S)), arI X (a 5) 20 (Pd (cpP P S)), oX3 (s 0) (s 1) (s 2) (Pn S), arN X (s 1) 6 s2, oX0 (s 2) (s 3) (s 4) (s 5) (Px S) (Pk S), arI X (s 3) 20 (Pa S), arI X (s 4) 20 (Pb S), arI X (s 5) 20 (Pd S)] ++ ((lsW b (PL (cpP P S))) ++ ((lsW s2 (PL S))))) A9 s9.heap H locs := hw
    refine W.eq (g2 := F0 m9 26 ls []) rfl ?_
    refine lv_aload_n Ex Eb dX7_restoreSnapshot_26 rfl (lv_at hl 0 rfl) ?_
    refine lo_get E hK hw huRX7 3 hf27 rfl 0 rfl rfl (by decide) (v := .ref xh) rfl dX7_restoreSnapshot_27 ?_
    refine lo_callV (q0 := 1) (rest := []) E hK hw (kX1_forget l X xh hp nx kp ) (cwV 0 E.2.2.2.2 gX7_restoreSnapshot_X1_forget rfl rfl rfl (by decide +kernel) ⟨Nat.le_of_ble_eq_true rfl, Nat.le_of_ble_eq_true rfl⟩) rfl rfl [1] rfl (by decide) hl.1 rfl rfl (Nat.le_of_ble_eq_true rfl) dX7_restoreSnapshot_30 ⟨Nat.le_of_ble_eq_true rfl, Nat.le_of_ble_eq_true rfl⟩ (fun v w1 H locs hq hw => ?_)
    obtain ⟨rfl, rfl⟩ := hq
    have hw : lo_Wd X ([oX7 xo xi isz (a 0) xh (s 0) sv xr xt xl xa xc, oX1 xh hp nx 0, oX3 (a 0) (a 1) (a 2) (Pn (cpP P S)), arN X (a 1) 6 b, oX0 (a 2) (a 3) (a 4) (a 5) (Px (cpP P S)) (Pk (cpP P S)), arI X (a 3) 20 (Pa (cpP P S)), arI X (a 4) 20 (Pb (cpP P S)), arI X (a 5) 20 (Pd (cpP P S)), oX3 (s 0) (s 1) (s 2) (Pn S), arN X (s 1) 6 s2, oX0 (s 2) (s 3) (s 4) (s 5) (Px S) (Pk S), arI X (s 3) 20 (Pa S), arI X (s 4) 20 (Pb S), arI X (s 5) 20 (Pd S)] ++ ((lsW b (PL (cpP P S))) ++ ((lsW s2 (PL S))))) A9 s9.heap H locs := hw
    refine W.eq (g2 := F0 m9 33 ls []) rfl ?_
    refine lv_aload_n Ex Eb dX7_restoreSnapshot_33 rfl (lv_at hl 0 rfl) ?_
    refine lo_get E hK hw huRX7 2 hf20 rfl 0 rfl rfl (by decide) (v := .ref (a 0)) rfl dX7_restoreSnapshot_34 ?_
    refine lo_get E hK hw huRX3 2 hf100 rfl 2 rfl rfl (by decide) (v := .int (iI (Pn (cpP P S)))) rfl dX7_restoreSnapshot_37 ?_
    refine vx_ret ?_
    refine W.widen (k := 1) (n := 6) (Nat.le_of_ble_eq_true rfl) (Nat.le_of_ble_eq_true rfl) ?_
    exact lo_iret E hRt hLk hK hAe hw dX7_restoreSnapshot_40 rfl ⟨(by omega), rfl, rfl⟩
  · skip
    refine lo_throw (cls := "java/util/NoSuchElementException") (names := ["java/lang/RuntimeException", "java/lang/Exception"]) (ik := 170) (ic := 172) E hst hV hK hAe hw hLk hT9 (by decide +kernel) (by decide +kernel) hk170 hin170 (by decide +kernel) (by decide +kernel) (by decide +kernel) hl.1 dX7_restoreSnapshot_7 dX7_restoreSnapshot_10 dX7_restoreSnapshot_11 dX7_restoreSnapshot_14 (Nat.le_of_ble_eq_true rfl) (Nat.le_of_ble_eq_true rfl) (Nat.le_of_ble_eq_true rfl) (Nat.le_of_ble_eq_true rfl) rfl (Nat.le_of_ble_eq_true rfl) (Nat.le_of_ble_eq_true rfl) ⟨(rfl), (by omega), rfl⟩
set_option maxHeartbeats 4000000 in
set_option maxRecDepth 100000 in
theorem kX7_truncateInput (l : Launch) (X : KX) (kS : Nat → Nat) (hst : l.stackTraces = false) (xo xi xh xs xr xt xl xa xc : Nat) (isz sv : Int) (xp : Nat) (k : Int) (hk9 : i32 k) (hsz : 0 ≤ isz ∧ isz ≤ 500) : CT l X kS yX7_truncateInput wsX7_truncateInput ({ frames := 7, cells := 1, slots := 6, locals := 122 }) [.ref xo, .int (iI k)] ([oX7 xo xi isz xp xh xs sv xr xt xl xa xc]) (fun v9 w9 => (0 ≤ k ∧ k ≤ isz) ∧ v9 = some (.int (iI k)) ∧ w9 = [oX7 xo xi k xp xh xs sv xr xt xl xa xc]) (fun E9 w9 => (E9 = "java/lang/IllegalArgumentException") ∧ (¬ (0 ≤ k ∧ k ≤ isz)) ∧ w9 = [oX7 xo xi isz xp xh xs sv xr xt xl xa xc]) 1 6 := by
  refine lo_enterT (cc := cX7_truncateInput) (maxL := 2) (ret := (some .int)) (lv := [(0, .ref xo), (1, .int (iI k))]) (by decide) rfl rfl (Nat.le_of_ble_eq_true rfl) ?_
  intro p9 e9 s9 m9 bl9 me9 c9 A9 ls hAe E hRt hLk hK hl hw hV hT9
  have Ex := E.1
  have Eb := E.2.1
  have huRX7 : ∀ w ∈ u_ws RX7 TX7 11, w ∈ wsX7_truncateInput := by decide +kernel
  have hf13 : (Cond.fieldLink RX7 13 "LoanSchedule" "inputSize" "I").before _ s9 = true := E.2.2.2.2 _ (List.mem_of_getElem? (i := 1) rfl)
  refine lv_iload_n Ex Eb dX7_truncateInput_0 rfl (lv_at hl 1 rfl) ?_
  refine lv_iconst (v := iI 0) Ex Eb dX7_truncateInput_1 rfl ?_
  refine lv_aload_n Ex Eb dX7_truncateInput_2 rfl (lv_at hl 0 rfl) ?_
  refine lo_get E hK hw huRX7 1 hf13 rfl 0 rfl rfl (by decide) (v := .int (iI isz)) rfl dX7_truncateInput_3 ?_
  refine lo_callST (rest := []) E hK hw hV (kX7_requireRange l X kS hst k 0 isz (by omega) (by omega) (by omega)) (cwS 3 E.2.2.2.2 gX7_truncateInput_X7_requireRange rfl rfl rfl (by decide +kernel) ⟨Nat.le_of_ble_eq_true rfl, Nat.le_of_ble_eq_true rfl⟩) [] rfl (by decide) hl.1 rfl rfl (Nat.le_of_ble_eq_true rfl) dX7_truncateInput_6 ⟨Nat.le_of_ble_eq_true rfl, Nat.le_of_ble_eq_true rfl⟩ (fun E9 ce9 q9 w1 H locs hq hw hx1 hx2 hx3 => ?_) (fun v w1 H locs hq hw => ?_)
  · obtain ⟨x6_0, x6_1, rfl⟩ := hq
    have hw : lo_Wd X ([oX7 xo xi isz xp xh xs sv xr xt xl xa xc]) A9 s9.heap H locs := hw
    exact lo_out hT9 hLk hK hAe hw hx1 hx2 hx3 rfl (Nat.le_of_ble_eq_true rfl) (Nat.le_of_ble_eq_true rfl) ⟨(x6_0), (x6_1), rfl⟩
  obtain ⟨q6_0, rfl, rfl⟩ := hq
  have hw : lo_Wd X ([oX7 xo xi isz xp xh xs sv xr xt xl xa xc]) A9 s9.heap H locs := hw
  refine W.eq (g2 := F0 m9 9 ls []) rfl ?_
  refine lv_aload_n Ex Eb dX7_truncateInput_9 rfl (lv_at hl 0 rfl) ?_
  refine lv_iload_n Ex Eb dX7_truncateInput_10 rfl (lv_at hl 1 rfl) ?_
  refine lo_put E hK hw huRX7 tyX7 tyX7_ok nmX7 1 hf13 rfl 0 rfl rfl (by decide) rfl rfl rfl rfl (Nat.le_of_ble_eq_true rfl) (ws' := [oX7 xo xi k xp xh xs sv xr xt xl xa xc]) rfl dX7_truncateInput_11 (fun H locs hw => ?_)
  refine lv_aload_n Ex Eb dX7_truncateInput_14 rfl (lv_at hl 0 rfl) ?_
  refine lo_get E hK hw huRX7 1 hf13 rfl 0 rfl rfl (by decide) (v := .int (iI k)) rfl dX7_truncateInput_15 ?_
  refine vx_ret ?_
  exact lo_iret E hRt hLk hK hAe hw dX7_truncateInput_18 rfl ⟨(by omega), rfl, rfl⟩
set_option maxHeartbeats 4000000 in
set_option maxRecDepth 100000 in
theorem kX7_reportByte (l : Launch) (X : KX) (xo xi xh xs xr xt xl xa xc : Nat) (isz sv : Int) (xp rb : Nat) (rs : Int) (B : Nat → Int) (k : Int) (hk9 : i32 k) (hrs : 0 ≤ rs ∧ rs ≤ 256) : CM l X yX7_reportByte wsX7_reportByte ({ frames := 0, cells := 0, slots := 0, locals := 0 }) [.ref xo, .int (iI k)] ([oX7 xo xi isz xp xh xs sv xr xt xl xa xc, oX4 xr rb rs, arB X rb 256 B]) (fun v9 w9 => ∃ z : Int, ((0 ≤ k ∧ k < rs ∧ z = B k.toNat) ∨ (¬ (0 ≤ k ∧ k < rs) ∧ z = -1)) ∧ v9 = some (.int (iI z)) ∧ w9 = [oX7 xo xi isz xp xh xs sv xr xt xl xa xc, oX4 xr rb rs, arB X rb 256 B]) 0 0 := by
  refine lo_enter (cc := cX7_reportByte) (maxL := 2) (ret := (some .int)) (lv := [(0, .ref xo), (1, .int (iI k))]) (by decide) rfl rfl (Nat.le_of_ble_eq_true rfl) ?_
  intro p9 e9 s9 m9 bl9 me9 c9 A9 ls hAe E hRt hLk hK hl hw
  have Ex := E.1
  have Eb := E.2.1
  have huRX7 : ∀ w ∈ u_ws RX7 TX7 11, w ∈ wsX7_reportByte := by decide +kernel
  have hf41 : (Cond.fieldLink RX7 41 "LoanSchedule" "report" "LLoanSchedule$Report;").before _ s9 = true := E.2.2.2.2 _ (List.mem_of_getElem? (i := 1) rfl)
  have huRX4 : ∀ w ∈ u_ws RX4 TX4 2, w ∈ wsX7_reportByte := by decide +kernel
  have hf287 : (Cond.fieldLink RX7 287 "LoanSchedule$Report" "size" "I").before _ s9 = true := E.2.2.2.2 _ (List.mem_of_getElem? (i := 2) rfl)
  have hf300 : (Cond.fieldLink RX7 300 "LoanSchedule$Report" "bytes" "[B").before _ s9 = true := E.2.2.2.2 _ (List.mem_of_getElem? (i := 3) rfl)
  refine lv_iload_n Ex Eb dX7_reportByte_0 rfl (lv_at hl 1 rfl) ?_
  refine lo_if_lt (tgt := 22) E dX7_reportByte_1 (by decide) (by omega) (fun c1 => ?_) (fun c1 => ?_)
  · skip
    refine lv_iconst (v := iI (-1)) Ex Eb dX7_reportByte_22 rfl ?_
    exact lo_iret E hRt hLk hK hAe hw dX7_reportByte_23 rfl ⟨-1, (by first | exact Or.inl ⟨by omega, by omega, rfl⟩ | exact Or.inr ⟨by omega, rfl⟩), rfl, rfl⟩
  · skip
    refine lv_iload_n Ex Eb dX7_reportByte_4 rfl (lv_at hl 1 rfl) ?_
    refine lv_aload_n Ex Eb dX7_reportByte_5 rfl (lv_at hl 0 rfl) ?_
    refine lo_get E hK hw huRX7 6 hf41 rfl 0 rfl rfl (by decide) (v := .ref xr) rfl dX7_reportByte_6 ?_
    refine lo_get E hK hw huRX4 1 hf287 rfl 1 rfl rfl (by decide) (v := .int (iI rs)) rfl dX7_reportByte_9 ?_
    refine lo_icmp_ge (tgt := 22) E dX7_reportByte_12 (by decide) (by omega) (by omega) (fun c2 => ?_) (fun c2 => ?_)
    · skip
      refine lv_iconst (v := iI (-1)) Ex Eb dX7_reportByte_22 rfl ?_
      exact lo_iret E hRt hLk hK hAe hw dX7_reportByte_23 rfl ⟨-1, (by first | exact Or.inl ⟨by omega, by omega, rfl⟩ | exact Or.inr ⟨by omega, rfl⟩), rfl, rfl⟩
    · skip
      refine lv_iload_n Ex Eb dX7_reportByte_15 rfl (lv_at hl 1 rfl) ?_
      refine lv_sipush (v := iI 256) Ex Eb dX7_reportByte_16 rfl ?_
      refine lo_icmp_lt (tgt := 24) E dX7_reportByte_19 (by decide) (by omega) (by omega) (fun c3 => ?_) (fun c3 => ?_)
      · skip
        refine lv_aload_n Ex Eb dX7_reportByte_24 rfl (lv_at hl 0 rfl) ?_
        refine lo_get E hK hw huRX7 6 hf41 rfl 0 rfl rfl (by decide) (v := .ref xr) rfl dX7_reportByte_25 ?_
        refine lo_get E hK hw huRX4 0 hf300 rfl 1 rfl rfl (by decide) (v := .ref rb) rfl dX7_reportByte_28 ?_
        refine lv_iload_n Ex Eb dX7_reportByte_31 rfl (lv_at hl 1 rfl) ?_
        refine lo_bald E hK hw 2 rfl (by omega) dX7_reportByte_32 ?_
        exact lo_iret E hRt hLk hK hAe hw dX7_reportByte_33 rfl ⟨B k.toNat, (by first | exact Or.inl ⟨by omega, by omega, rfl⟩ | exact Or.inr ⟨by omega, rfl⟩), rfl, rfl⟩
      · skip
        refine lv_iconst (v := iI (-1)) Ex Eb dX7_reportByte_22 rfl ?_
        exact lo_iret E hRt hLk hK hAe hw dX7_reportByte_23 rfl ⟨-1, (by first | exact Or.inl ⟨by omega, by omega, rfl⟩ | exact Or.inr ⟨by omega, rfl⟩), rfl, rfl⟩
set_option maxHeartbeats 4000000 in
set_option maxRecDepth 100000 in
theorem kX7_scriptErrorKind (l : Launch) (X : KX) (xo xi xh xs xr xt xl xa xc : Nat) (isz sv : Int) (xp tk tg a1 a2 a3 : Nat) (en ex dp s1 s2 s3 kt ek eo : Int) : CM l X yX7_scriptErrorKind wsX7_scriptErrorKind ({ frames := 0, cells := 0, slots := 0, locals := 0 }) [.ref xo] ([oX7 xo xi isz xp xh xs sv xr xt xl xa xc, oX5 xc tk tg en ex dp a1 a2 a3 s1 s2 s3 kt ek eo]) (fun v9 w9 => v9 = some (.int (iI ek)) ∧ w9 = [oX7 xo xi isz xp xh xs sv xr xt xl xa xc, oX5 xc tk tg en ex dp a1 a2 a3 s1 s2 s3 kt ek eo]) 0 0 := by
  refine lo_enter (cc := cX7_scriptErrorKind) (maxL := 1) (ret := (some .int)) (lv := [(0, .ref xo)]) (by decide) rfl rfl (Nat.le_of_ble_eq_true rfl) ?_
  intro p9 e9 s9 m9 bl9 me9 c9 A9 ls hAe E hRt hLk hK hl hw
  have Ex := E.1
  have Eb := E.2.1
  have huRX7 : ∀ w ∈ u_ws RX7 TX7 11, w ∈ wsX7_scriptErrorKind := by decide +kernel
  have hf63 : (Cond.fieldLink RX7 63 "LoanSchedule" "script" "LLoanSchedule$Script;").before _ s9 = true := E.2.2.2.2 _ (List.mem_of_getElem? (i := 1) rfl)
  have huRX5 : ∀ w ∈ u_ws RX5 TX5 14, w ∈ wsX7_scriptErrorKind := by decide +kernel
  have hf94 : (Cond.fieldLink RX7 94 "LoanSchedule$Script" "errorKind" "I").before _ s9 = true := E.2.2.2.2 _ (List.mem_of_getElem? (i := 2) rfl)
  refine lv_aload_n Ex Eb dX7_scriptErrorKind_0 rfl (lv_at hl 0 rfl) ?_
  refine lo_get E hK hw huRX7 10 hf63 rfl 0 rfl rfl (by decide) (v := .ref xc) rfl dX7_scriptErrorKind_1 ?_
  refine lo_get E hK hw huRX5 12 hf94 rfl 1 rfl rfl (by decide) (v := .int (iI ek)) rfl dX7_scriptErrorKind_4 ?_
  exact lo_iret E hRt hLk hK hAe hw dX7_scriptErrorKind_7 rfl ⟨rfl, rfl⟩
set_option maxHeartbeats 4000000 in
set_option maxRecDepth 100000 in
theorem kX7_scriptErrorOffset (l : Launch) (X : KX) (xo xi xh xs xr xt xl xa xc : Nat) (isz sv : Int) (xp tk tg a1 a2 a3 : Nat) (en ex dp s1 s2 s3 kt ek eo : Int) : CM l X yX7_scriptErrorOffset wsX7_scriptErrorOffset ({ frames := 0, cells := 0, slots := 0, locals := 0 }) [.ref xo] ([oX7 xo xi isz xp xh xs sv xr xt xl xa xc, oX5 xc tk tg en ex dp a1 a2 a3 s1 s2 s3 kt ek eo]) (fun v9 w9 => v9 = some (.int (iI eo)) ∧ w9 = [oX7 xo xi isz xp xh xs sv xr xt xl xa xc, oX5 xc tk tg en ex dp a1 a2 a3 s1 s2 s3 kt ek eo]) 0 0 := by
  refine lo_enter (cc := cX7_scriptErrorOffset) (maxL := 1) (ret := (some .int)) (lv := [(0, .ref xo)]) (by decide) rfl rfl (Nat.le_of_ble_eq_true rfl) ?_
  intro p9 e9 s9 m9 bl9 me9 c9 A9 ls hAe E hRt hLk hK hl hw
  have Ex := E.1
  have Eb := E.2.1
  have huRX7 : ∀ w ∈ u_ws RX7 TX7 11, w ∈ wsX7_scriptErrorOffset := by decide +kernel
  have hf63 : (Cond.fieldLink RX7 63 "LoanSchedule" "script" "LLoanSchedule$Script;").before _ s9 = true := E.2.2.2.2 _ (List.mem_of_getElem? (i := 1) rfl)
  have huRX5 : ∀ w ∈ u_ws RX5 TX5 14, w ∈ wsX7_scriptErrorOffset := by decide +kernel
  have hf176 : (Cond.fieldLink RX7 176 "LoanSchedule$Script" "errorOffset" "I").before _ s9 = true := E.2.2.2.2 _ (List.mem_of_getElem? (i := 2) rfl)
  refine lv_aload_n Ex Eb dX7_scriptErrorOffset_0 rfl (lv_at hl 0 rfl) ?_
  refine lo_get E hK hw huRX7 10 hf63 rfl 0 rfl rfl (by decide) (v := .ref xc) rfl dX7_scriptErrorOffset_1 ?_
  refine lo_get E hK hw huRX5 13 hf176 rfl 1 rfl rfl (by decide) (v := .int (iI eo)) rfl dX7_scriptErrorOffset_4 ?_
  exact lo_iret E hRt hLk hK hAe hw dX7_scriptErrorOffset_7 rfl ⟨rfl, rfl⟩
