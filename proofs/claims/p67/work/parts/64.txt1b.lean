set_option maxHeartbeats 4000000 in
set_option maxRecDepth 100000 in
theorem kX7_append (l : Launch) (X : KX) (xo xi xh xs xr xt xl xa xc : Nat) (isz sv : Int) (xp : Nat) (T : Nat → Int) (x0 x1 x2 x3 x4 : Int) (hsz : 0 ≤ isz ∧ isz ≤ 500) (hx0 : i32 x0) (hx1 : i32 x1) (hx2 : i32 x2) (hx3 : i32 x3) (hx4 : i32 x4) : CM l X yX7_append wsX7_append ({ frames := 1, cells := 0, slots := 0, locals := 22 }) [.ref xo, .int (iI x0), .int (iI x1), .int (iI x2), .int (iI x3), .int (iI x4)] ([oX7 xo xi isz xp xh xs sv xr xt xl xa xc, arB X xi 500 (sB T)]) (fun v9 w9 => ∃ n9 : Int, ∃ U : Nat → Int, ∃ z : Int, ((isz + 20 ≤ 500 ∧ z = isz + 20 ∧ n9 = isz + 20 ∧ U = ap5 T isz x0 x1 x2 x3 x4) ∨ (500 < isz + 20 ∧ z = -2 ∧ n9 = isz ∧ U = T)) ∧ v9 = some (.int (iI z)) ∧ w9 = [oX7 xo xi n9 xp xh xs sv xr xt xl xa xc, arB X xi 500 (sB U)]) 0 0 := by
  refine lo_enter (cc := cX7_append) (maxL := 6) (ret := (some .int)) (lv := [(0, .ref xo), (1, .int (iI x0)), (2, .int (iI x1)), (3, .int (iI x2)), (4, .int (iI x3)), (5, .int (iI x4))]) (by decide) rfl rfl (Nat.le_of_ble_eq_true rfl) ?_
  intro p9 e9 s9 m9 bl9 me9 c9 A9 ls hAe E hRt hLk hK hl hw
  have Ex := E.1
  have Eb := E.2.1
  have huRX7 : ∀ w ∈ u_ws RX7 TX7 11, w ∈ wsX7_append := by decide +kernel
  have hf13 : (Cond.fieldLink RX7 13 "LoanSchedule" "inputSize" "I").before _ s9 = true := E.2.2.2.2 _ (List.mem_of_getElem? (i := 1) rfl)
  refine lv_aload_n Ex Eb dX7_append_0 rfl (lv_at hl 0 rfl) ?_
  refine lo_get E hK hw huRX7 1 hf13 rfl 0 rfl rfl (by decide) (v := .int (iI isz)) rfl dX7_append_1 ?_
  refine lv_bipush (v := iI 20) Ex Eb dX7_append_4 rfl ?_
  refine lo_iadd E dX7_append_6 ?_
  refine lv_sipush (v := iI 500) Ex Eb dX7_append_7 rfl ?_
  refine lo_icmp_le (tgt := 16) E dX7_append_10 (by decide) (by omega) (by omega) (fun c1 => ?_) (fun c1 => ?_)
  · skip
    refine lv_aload_n Ex Eb dX7_append_16 rfl (lv_at hl 0 rfl) ?_
    refine lv_iload_n Ex Eb dX7_append_17 rfl (lv_at hl 1 rfl) ?_
    refine lo_callV (q0 := 0) (rest := []) E hK hw (kX7_putWord l X xo xi xh xs xr xt xl xa xc isz sv xp T x0 (by omega) (by omega)) (cwV 1 E.2.2.2.2 gX7_append_X7_putWord rfl rfl rfl (by decide +kernel) ⟨Nat.le_of_ble_eq_true rfl, Nat.le_of_ble_eq_true rfl⟩) rfl rfl [0, 1] rfl (by decide) hl.1 rfl rfl (Nat.le_of_ble_eq_true rfl) dX7_append_18 ⟨Nat.le_of_ble_eq_true rfl, Nat.le_of_ble_eq_true rfl⟩ (fun v w1 H locs hq hw => ?_)
    obtain ⟨rfl, rfl⟩ := hq
    have hw : lo_Wd X ([oX7 xo xi (isz + 4) xp xh xs sv xr xt xl xa xc, arB X xi 500 (sB (ty4 T isz x0))]) A9 s9.heap H locs := hw
    refine W.eq (g2 := F0 m9 21 ls []) rfl ?_
    refine lv_aload_n Ex Eb dX7_append_21 rfl (lv_at hl 0 rfl) ?_
    refine lv_iload_n Ex Eb dX7_append_22 rfl (lv_at hl 2 rfl) ?_
    refine lo_callV (q0 := 0) (rest := []) E hK hw (kX7_putWord l X xo xi xh xs xr xt xl xa xc (isz + 4) sv xp (ty4 T isz x0) x1 (by omega) (by omega)) (cwV 1 E.2.2.2.2 gX7_append_X7_putWord rfl rfl rfl (by decide +kernel) ⟨Nat.le_of_ble_eq_true rfl, Nat.le_of_ble_eq_true rfl⟩) rfl rfl [0, 1] rfl (by decide) hl.1 rfl rfl (Nat.le_of_ble_eq_true rfl) dX7_append_23 ⟨Nat.le_of_ble_eq_true rfl, Nat.le_of_ble_eq_true rfl⟩ (fun v w1 H locs hq hw => ?_)
    obtain ⟨rfl, rfl⟩ := hq
    have hw : lo_Wd X ([oX7 xo xi ((isz + 4) + 4) xp xh xs sv xr xt xl xa xc, arB X xi 500 (sB (ty4 (ty4 T isz x0) (isz + 4) x1))]) A9 s9.heap H locs := hw
    refine W.eq (g2 := F0 m9 26 ls []) rfl ?_
    refine lv_aload_n Ex Eb dX7_append_26 rfl (lv_at hl 0 rfl) ?_
    refine lv_iload_n Ex Eb dX7_append_27 rfl (lv_at hl 3 rfl) ?_
    refine lo_callV (q0 := 0) (rest := []) E hK hw (kX7_putWord l X xo xi xh xs xr xt xl xa xc ((isz + 4) + 4) sv xp (ty4 (ty4 T isz x0) (isz + 4) x1) x2 (by omega) (by omega)) (cwV 1 E.2.2.2.2 gX7_append_X7_putWord rfl rfl rfl (by decide +kernel) ⟨Nat.le_of_ble_eq_true rfl, Nat.le_of_ble_eq_true rfl⟩) rfl rfl [0, 1] rfl (by decide) hl.1 rfl rfl (Nat.le_of_ble_eq_true rfl) dX7_append_28 ⟨Nat.le_of_ble_eq_true rfl, Nat.le_of_ble_eq_true rfl⟩ (fun v w1 H locs hq hw => ?_)
    obtain ⟨rfl, rfl⟩ := hq
    have hw : lo_Wd X ([oX7 xo xi (((isz + 4) + 4) + 4) xp xh xs sv xr xt xl xa xc, arB X xi 500 (sB (ty4 (ty4 (ty4 T isz x0) (isz + 4) x1) ((isz + 4) + 4) x2))]) A9 s9.heap H locs := hw
    refine W.eq (g2 := F0 m9 31 ls []) rfl ?_
    refine lv_aload_n Ex Eb dX7_append_31 rfl (lv_at hl 0 rfl) ?_
    refine lv_iload Ex Eb dX7_append_32 (lv_at hl 4 rfl) ?_
    refine lo_callV (q0 := 0) (rest := []) E hK hw (kX7_putWord l X xo xi xh xs xr xt xl xa xc (((isz + 4) + 4) + 4) sv xp (ty4 (ty4 (ty4 T isz x0) (isz + 4) x1) ((isz + 4) + 4) x2) x3 (by omega) (by omega)) (cwV 1 E.2.2.2.2 gX7_append_X7_putWord rfl rfl rfl (by decide +kernel) ⟨Nat.le_of_ble_eq_true rfl, Nat.le_of_ble_eq_true rfl⟩) rfl rfl [0, 1] rfl (by decide) hl.1 rfl rfl (Nat.le_of_ble_eq_true rfl) dX7_append_34 ⟨Nat.le_of_ble_eq_true rfl, Nat.le_of_ble_eq_true rfl⟩ (fun v w1 H locs hq hw => ?_)
    obtain ⟨rfl, rfl⟩ := hq
    have hw : lo_Wd X ([oX7 xo xi ((((isz + 4) + 4) + 4) + 4) xp xh xs sv xr xt xl xa xc, arB X xi 500 (sB (ty4 (ty4 (ty4 (ty4 T isz x0) (isz + 4) x1) ((isz + 4) + 4) x2) (((isz + 4) + 4) + 4) x3))]) A9 s9.heap H locs := hw
    refine W.eq (g2 := F0 m9 37 ls []) rfl ?_
    refine lv_aload_n Ex Eb dX7_append_37 rfl (lv_at hl 0 rfl) ?_
    refine lv_iload Ex Eb dX7_append_38 (lv_at hl 5 rfl) ?_
    refine lo_callV (q0 := 0) (rest := []) E hK hw (kX7_putWord l X xo xi xh xs xr xt xl xa xc ((((isz + 4) + 4) + 4) + 4) sv xp (ty4 (ty4 (ty4 (ty4 T isz x0) (isz + 4) x1) ((isz + 4) + 4) x2) (((isz + 4) + 4) + 4) x3) x4 (by omega) (by omega)) (cwV 1 E.2.2.2.2 gX7_append_X7_putWord rfl rfl rfl (by decide +kernel) ⟨Nat.le_of_ble_eq_true rfl, Nat.le_of_ble_eq_true rfl⟩) rfl rfl [0, 1] rfl (by decide) hl.1 rfl rfl (Nat.le_of_ble_eq_true rfl) dX7_append_40 ⟨Nat.le_of_ble_eq_true rfl, Nat.le_of_ble_eq_true rfl⟩ (fun v w1 H locs hq hw => ?_)
    obtain ⟨rfl, rfl⟩ := hq
    have hw : lo_Wd X ([oX7 xo xi (((((isz + 4) + 4) + 4) + 4) + 4) xp xh xs sv xr xt xl xa xc, arB X xi 500 (sB (ty4 (ty4 (ty4 (ty4 (ty4 T isz x0) (isz + 4) x1) ((isz + 4) + 4) x2) (((isz + 4) + 4) + 4) x3) ((((isz + 4) + 4) + 4) + 4) x4))]) A9 s9.heap H locs := hw
    refine W.eq (g2 := F0 m9 43 ls []) rfl ?_
    refine lv_aload_n Ex Eb dX7_append_43 rfl (lv_at hl 0 rfl) ?_
    refine lo_get E hK hw huRX7 1 hf13 rfl 0 rfl rfl (by decide) (v := .int (iI (((((isz + 4) + 4) + 4) + 4) + 4))) rfl dX7_append_44 ?_
    exact lo_iret E hRt hLk hK hAe hw dX7_append_47 rfl ⟨((((isz + 4) + 4) + 4) + 4) + 4, ty4 (ty4 (ty4 (ty4 (ty4 T isz x0) (isz + 4) x1) ((isz + 4) + 4) x2) (((isz + 4) + 4) + 4) x3) ((((isz + 4) + 4) + 4) + 4) x4, ((((isz + 4) + 4) + 4) + 4) + 4, (by first | (exfalso; omega) | exact Or.inl ⟨by omega, by omega, by omega, ap5_e⟩ | exact Or.inr ⟨by omega, by omega, by omega, rfl⟩), rfl, rfl⟩
  · skip
    refine lv_bipush (v := iI (-2)) Ex Eb dX7_append_13 rfl ?_
    exact lo_iret E hRt hLk hK hAe hw dX7_append_15 rfl ⟨isz, T, -2, (by first | (exfalso; omega) | exact Or.inl ⟨by omega, by omega, by omega, ap5_e⟩ | exact Or.inr ⟨by omega, by omega, by omega, rfl⟩), rfl, rfl⟩
