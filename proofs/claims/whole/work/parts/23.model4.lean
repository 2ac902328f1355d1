set_option maxHeartbeats 4000000 in
set_option maxRecDepth 100000 in
theorem kX8_dearest (l : Launch) (X : KX) (d : Nat → Nat) (M w : Nat → Int) (hWI : WI w) : CM l X yX8_dearest wsX8_dearest ({ frames := 2, cells := 0, slots := 0, locals := 43 }) [.ref (d 0)] ([oX8 (d 0) (M 0) (d 1) (d 2) (M 3) (d 3) (M 5) (d 4) (d 5) (d 6) (M 9) (d 7) (M 11) (M 12) (M 13) (M 14) (M 15) (M 16) (M 17) (M 18) (M 19) (M 20) (M 21) (M 22) (M 23) (M 24) (M 25) (M 26) (M 27) (M 28), arI X (d 1) 122 w]) (fun v9 w9 => v9 = some (.int (iI (dst (LWf w) (w 0).toNat))) ∧ w9 = [oX8 (d 0) (M 0) (d 1) (d 2) (M 3) (d 3) (M 5) (d 4) (d 5) (d 6) (M 9) (d 7) (M 11) (M 12) (M 13) (M 14) (M 15) (M 16) (M 17) (M 18) (M 19) (M 20) (M 21) (M 22) (M 23) (M 24) (M 25) (M 26) (M 27) (M 28), arI X (d 1) 122 w]) 0 0 := by
  refine lo_enter (cc := cX8_dearest) (maxL := 3) (ret := (some .int)) (lv := [(0, .ref (d 0))]) (by decide) rfl rfl (Nat.le_of_ble_eq_true rfl) ?_
  intro p9 e9 s9 m9 bl9 me9 c9 A9 ls hAe E hRt hLk hK hl hw
  have Ex := E.1
  have Eb := E.2.1
  have huRX8 : ∀ w ∈ u_ws RX8 TX8 29, w ∈ wsX8_dearest := by decide +kernel
  have hf9 : (Cond.fieldLink RX8 9 "LoanScheduleModel" "w" "[I").before _ s9 = true := E.2.2.2.2 _ (List.mem_of_getElem? (i := 1) rfl)
  obtain ⟨⟨hn0, hn1⟩, ⟨hb0, hb1⟩, hL⟩ := id hWI
  refine lv_iconst (v := iI (-1)) Ex Eb dX8_dearest_0 rfl ?_
  refine lv_istore_n (lv' := [(1, .int (iI (-1))), (0, .ref (d 0))]) Ex Eb dX8_dearest_1 rfl hl (by decide) rfl (fun ls hl => ?_)
  refine lv_iconst (v := iI 0) Ex Eb dX8_dearest_2 rfl ?_
  refine lv_istore_n (lv' := [(2, .int (iI 0)), (1, .int (iI (-1))), (0, .ref (d 0))]) Ex Eb dX8_dearest_3 rfl hl (by decide) rfl (fun ls hl => ?_)
  have lp4 : ∀ (n : Nat) (be ix : Int), (w 0 - ix).toNat < n → (0 ≤ ix ∧ ix ≤ w 0) → (be = dst (LWf w) ix.toNat) → (be = -1 ∨ (0 ≤ be ∧ be < ix)) → ∀ (H : Heap) (locs : List Loc) (ls : Array Slot), lo_Wd X ([oX8 (d 0) (M 0) (d 1) (d 2) (M 3) (d 3) (M 5) (d 4) (d 5) (d 6) (M 9) (d 7) (M 11) (M 12) (M 13) (M 14) (M 15) (M 16) (M 17) (M 18) (M 19) (M 20) (M 21) (M 22) (M 23) (M 24) (M 25) (M 26) (M 27) (M 28), arI X (d 1) 122 w]) A9 s9.heap H locs → lv_has ls 3 [(0, .ref (d 0)), (1, .int (iI be)), (2, .int (iI ix))] → W p9 l e9 ({ frames := 2, cells := 0, slots := 0, locals := 43 } : Room) s9 m9 ([.ref (d 0)] : List Value).toArray bl9 me9 c9 H locs 0 0 (MQ bl9 (lo_Qc X ([oX8 (d 0) (M 0) (d 1) (d 2) (M 3) (d 3) (M 5) (d 4) (d 5) (d 6) (M 9) (d 7) (M 11) (M 12) (M 13) (M 14) (M 15) (M 16) (M 17) (M 18) (M 19) (M 20) (M 21) (M 22) (M 23) (M 24) (M 25) (M 26) (M 27) (M 28), arI X (d 1) 122 w]) s9.heap.size (fun v9 w9 => v9 = some (.int (iI (dst (LWf w) (w 0).toNat))) ∧ w9 = [oX8 (d 0) (M 0) (d 1) (d 2) (M 3) (d 3) (M 5) (d 4) (d 5) (d 6) (M 9) (d 7) (M 11) (M 12) (M 13) (M 14) (M 15) (M 16) (M 17) (M 18) (M 19) (M 20) (M 21) (M 22) (M 23) (M 24) (M 25) (M 26) (M 27) (M 28), arI X (d 1) 122 w])) ([.ref (d 0)] : List Value).toArray s9 0 0 A9) (F0 m9 4 ls []) := by
    intro n
    induction n with
    | zero => intro be ix hn; exact absurd hn (Nat.not_lt_zero _)
    | succ n ih4 =>
      intro be ix hn4 iv4_0 iv4_1 iv4_2 H locs ls hw hl
      refine lv_iload_n Ex Eb dX8_dearest_4 rfl (lv_at hl 2 rfl) ?_
      refine lv_aload_n Ex Eb dX8_dearest_5 rfl (lv_at hl 0 rfl) ?_
      refine lo_get E hK hw huRX8 1 hf9 rfl 0 rfl rfl (by decide) (v := .ref (d 1)) rfl dX8_dearest_6 ?_
      refine lv_iconst (v := iI 0) Ex Eb dX8_dearest_9 rfl ?_
      refine lo_iald E hK hw 1 rfl (by omega) dX8_dearest_10 ?_
      refine W.eq (g2 := F0 m9 11 ls [.int (iI (w 0)), .int (iI ix)]) rfl ?_
      refine lo_icmp_ge (tgt := 54) E dX8_dearest_11 (by decide) (by omega) (by omega) (fun c1 => ?_) (fun c1 => ?_)
      · skip
        refine lv_iload_n Ex Eb dX8_dearest_54 rfl (lv_at hl 1 rfl) ?_
        exact lo_iret E hRt hLk hK hAe hw dX8_dearest_55 rfl ⟨by rw [iv4_1, show ix = w 0 by omega], rfl⟩
      · skip
        have hW1 := WI_1 hWI (i := ix) (by omega) (by omega)
        refine lv_aload_n Ex Eb dX8_dearest_14 rfl (lv_at hl 0 rfl) ?_
        refine lv_iload_n Ex Eb dX8_dearest_15 rfl (lv_at hl 2 rfl) ?_
        refine lo_callV (q0 := 0) (rest := []) E hK hw (kX8_isRunning l X d M w ix (by omega) (by omega)) (cwV 1 E.2.2.2.2 gX8_dearest_X8_isRunning rfl rfl rfl (by decide +kernel) ⟨Nat.le_of_ble_eq_true rfl, Nat.le_of_ble_eq_true rfl⟩) rfl rfl [0, 1] rfl (by decide) hl.1 rfl rfl (Nat.le_of_ble_eq_true rfl) dX8_dearest_16 ⟨Nat.le_of_ble_eq_true rfl, Nat.le_of_ble_eq_true rfl⟩ (fun v w1 H locs hq hw => ?_)
        obtain ⟨r2, q16_0, rfl, rfl⟩ := hq
        have hw : lo_Wd X ([oX8 (d 0) (M 0) (d 1) (d 2) (M 3) (d 3) (M 5) (d 4) (d 5) (d 6) (M 9) (d 7) (M 11) (M 12) (M 13) (M 14) (M 15) (M 16) (M 17) (M 18) (M 19) (M 20) (M 21) (M 22) (M 23) (M 24) (M 25) (M 26) (M 27) (M 28), arI X (d 1) 122 w]) A9 s9.heap H locs := hw
        refine W.eq (g2 := F0 m9 19 ls [.int (iI r2)]) rfl ?_
        refine lo_if_eq (tgt := 46) E dX8_dearest_19 (by decide) (by omega) (fun c3 => ?_) (fun c3 => ?_)
        · skip
          refine lv_iload_n Ex Eb dX8_dearest_46 rfl (lv_at hl 1 rfl) ?_
          refine lv_istore_n (lv' := [(1, .int (iI be)), (0, .ref (d 0)), (2, .int (iI ix))]) Ex Eb dX8_dearest_47 rfl hl (by decide) rfl (fun ls hl => ?_)
          refine lo_iinc (lv' := [(2, .int (iI (ix + 1))), (1, .int (iI be)), (0, .ref (d 0))]) E dX8_dearest_48 hl (k := 2) rfl (by decide) rfl (fun ls hl => ?_)
          refine lv_goto (tgt := 4) Ex Eb dX8_dearest_51 (by decide) ?_
          exact ih4 be (ix + 1) (by omega) (by omega) (by first | exact wdst_y (by omega) iv4_1 (by omega) (by omega) | exact wdst_n (by omega) iv4_1 (by omega)) (by omega) _ _ _ hw (lv_sub hl [2, 1, 0] rfl)
        · skip
          refine lv_iload_n Ex Eb dX8_dearest_22 rfl (lv_at hl 1 rfl) ?_
          refine lv_iconst (v := iI (-1)) Ex Eb dX8_dearest_23 rfl ?_
          refine lo_icmp_eq (tgt := 42) E dX8_dearest_24 (by decide) (by omega) (by omega) (fun c4 => ?_) (fun c4 => ?_)
          · skip
            refine lv_iload_n Ex Eb dX8_dearest_42 rfl (lv_at hl 2 rfl) ?_
            refine lv_goto (tgt := 47) Ex Eb dX8_dearest_43 (by decide) ?_
            refine lv_istore_n (lv' := [(1, .int (iI ix)), (0, .ref (d 0)), (2, .int (iI ix))]) Ex Eb dX8_dearest_47 rfl hl (by decide) rfl (fun ls hl => ?_)
            refine lo_iinc (lv' := [(2, .int (iI (ix + 1))), (1, .int (iI ix)), (0, .ref (d 0))]) E dX8_dearest_48 hl (k := 2) rfl (by decide) rfl (fun ls hl => ?_)
            refine lv_goto (tgt := 4) Ex Eb dX8_dearest_51 (by decide) ?_
            exact ih4 ix (ix + 1) (by omega) (by omega) (by first | exact wdst_y (by omega) iv4_1 (by omega) (by omega) | exact wdst_n (by omega) iv4_1 (by omega)) (by omega) _ _ _ hw (lv_sub hl [2, 1, 0] rfl)
          · skip
            refine lv_aload_n Ex Eb dX8_dearest_27 rfl (lv_at hl 0 rfl) ?_
            refine lv_iload_n Ex Eb dX8_dearest_28 rfl (lv_at hl 2 rfl) ?_
            refine lv_iconst (v := iI 2) Ex Eb dX8_dearest_29 rfl ?_
            refine lo_callV (q0 := 0) (rest := []) E hK hw (kX8_of l X d M w ix 2 (by omega) (by omega)) (cwV 2 E.2.2.2.2 gX8_dearest_X8_of rfl rfl rfl (by decide +kernel) ⟨Nat.le_of_ble_eq_true rfl, Nat.le_of_ble_eq_true rfl⟩) rfl rfl [0, 1] rfl (by decide) hl.1 rfl rfl (Nat.le_of_ble_eq_true rfl) dX8_dearest_30 ⟨Nat.le_of_ble_eq_true rfl, Nat.le_of_ble_eq_true rfl⟩ (fun v w1 H locs hq hw => ?_)
            obtain ⟨rfl, rfl⟩ := hq
            have hw : lo_Wd X ([oX8 (d 0) (M 0) (d 1) (d 2) (M 3) (d 3) (M 5) (d 4) (d 5) (d 6) (M 9) (d 7) (M 11) (M 12) (M 13) (M 14) (M 15) (M 16) (M 17) (M 18) (M 19) (M 20) (M 21) (M 22) (M 23) (M 24) (M 25) (M 26) (M 27) (M 28), arI X (d 1) 122 w]) A9 s9.heap H locs := hw
            refine W.eq (g2 := F0 m9 33 ls [.int (iI (wOf w ix 2))]) rfl ?_
            have hW2 := WI_1 hWI (i := be) (by omega) (by omega)
            refine lv_aload_n Ex Eb dX8_dearest_33 rfl (lv_at hl 0 rfl) ?_
            refine lv_iload_n Ex Eb dX8_dearest_34 rfl (lv_at hl 1 rfl) ?_
            refine lv_iconst (v := iI 2) Ex Eb dX8_dearest_35 rfl ?_
            refine lo_callV (q0 := 0) (rest := [.int (iI (wOf w ix 2))]) E hK hw (kX8_of l X d M w be 2 (by omega) (by omega)) (cwV 2 E.2.2.2.2 gX8_dearest_X8_of rfl rfl rfl (by decide +kernel) ⟨Nat.le_of_ble_eq_true rfl, Nat.le_of_ble_eq_true rfl⟩) rfl rfl [0, 1] rfl (by decide) hl.1 rfl rfl (Nat.le_of_ble_eq_true rfl) dX8_dearest_36 ⟨Nat.le_of_ble_eq_true rfl, Nat.le_of_ble_eq_true rfl⟩ (fun v w1 H locs hq hw => ?_)
            obtain ⟨rfl, rfl⟩ := hq
            have hw : lo_Wd X ([oX8 (d 0) (M 0) (d 1) (d 2) (M 3) (d 3) (M 5) (d 4) (d 5) (d 6) (M 9) (d 7) (M 11) (M 12) (M 13) (M 14) (M 15) (M 16) (M 17) (M 18) (M 19) (M 20) (M 21) (M 22) (M 23) (M 24) (M 25) (M 26) (M 27) (M 28), arI X (d 1) 122 w]) A9 s9.heap H locs := hw
            refine W.eq (g2 := F0 m9 39 ls [.int (iI (wOf w be 2)), .int (iI (wOf w ix 2))]) rfl ?_
            refine lo_icmp_le (tgt := 46) E dX8_dearest_39 (by decide) (by omega) (by omega) (fun c5 => ?_) (fun c5 => ?_)
            · skip
              refine lv_iload_n Ex Eb dX8_dearest_46 rfl (lv_at hl 1 rfl) ?_
              refine lv_istore_n (lv' := [(1, .int (iI be)), (0, .ref (d 0)), (2, .int (iI ix))]) Ex Eb dX8_dearest_47 rfl hl (by decide) rfl (fun ls hl => ?_)
              refine lo_iinc (lv' := [(2, .int (iI (ix + 1))), (1, .int (iI be)), (0, .ref (d 0))]) E dX8_dearest_48 hl (k := 2) rfl (by decide) rfl (fun ls hl => ?_)
              refine lv_goto (tgt := 4) Ex Eb dX8_dearest_51 (by decide) ?_
              exact ih4 be (ix + 1) (by omega) (by omega) (by first | exact wdst_y (by omega) iv4_1 (by omega) (by omega) | exact wdst_n (by omega) iv4_1 (by omega)) (by omega) _ _ _ hw (lv_sub hl [2, 1, 0] rfl)
            · skip
              refine lv_iload_n Ex Eb dX8_dearest_42 rfl (lv_at hl 2 rfl) ?_
              refine lv_goto (tgt := 47) Ex Eb dX8_dearest_43 (by decide) ?_
              refine lv_istore_n (lv' := [(1, .int (iI ix)), (0, .ref (d 0)), (2, .int (iI ix))]) Ex Eb dX8_dearest_47 rfl hl (by decide) rfl (fun ls hl => ?_)
              refine lo_iinc (lv' := [(2, .int (iI (ix + 1))), (1, .int (iI ix)), (0, .ref (d 0))]) E dX8_dearest_48 hl (k := 2) rfl (by decide) rfl (fun ls hl => ?_)
              refine lv_goto (tgt := 4) Ex Eb dX8_dearest_51 (by decide) ?_
              exact ih4 ix (ix + 1) (by omega) (by omega) (by first | exact wdst_y (by omega) iv4_1 (by omega) (by omega) | exact wdst_n (by omega) iv4_1 (by omega)) (by omega) _ _ _ hw (lv_sub hl [2, 1, 0] rfl)
  exact lp4 _ (-1) 0 (Nat.lt_succ_self _) (by omega) (rfl) (by omega) _ _ _ hw (lv_sub hl [2, 1, 0] rfl)
set_option maxHeartbeats 4000000 in
set_option maxRecDepth 100000 in
theorem kX8_smallest (l : Launch) (X : KX) (d : Nat → Nat) (M w : Nat → Int) (hWI : WI w) : CM l X yX8_smallest wsX8_smallest ({ frames := 2, cells := 0, slots := 0, locals := 43 }) [.ref (d 0)] ([oX8 (d 0) (M 0) (d 1) (d 2) (M 3) (d 3) (M 5) (d 4) (d 5) (d 6) (M 9) (d 7) (M 11) (M 12) (M 13) (M 14) (M 15) (M 16) (M 17) (M 18) (M 19) (M 20) (M 21) (M 22) (M 23) (M 24) (M 25) (M 26) (M 27) (M 28), arI X (d 1) 122 w]) (fun v9 w9 => v9 = some (.int (iI (sml (LWf w) (w 0).toNat))) ∧ w9 = [oX8 (d 0) (M 0) (d 1) (d 2) (M 3) (d 3) (M 5) (d 4) (d 5) (d 6) (M 9) (d 7) (M 11) (M 12) (M 13) (M 14) (M 15) (M 16) (M 17) (M 18) (M 19) (M 20) (M 21) (M 22) (M 23) (M 24) (M 25) (M 26) (M 27) (M 28), arI X (d 1) 122 w]) 0 0 := by
  refine lo_enter (cc := cX8_smallest) (maxL := 3) (ret := (some .int)) (lv := [(0, .ref (d 0))]) (by decide) rfl rfl (Nat.le_of_ble_eq_true rfl) ?_
  intro p9 e9 s9 m9 bl9 me9 c9 A9 ls hAe E hRt hLk hK hl hw
  have Ex := E.1
  have Eb := E.2.1
  have huRX8 : ∀ w ∈ u_ws RX8 TX8 29, w ∈ wsX8_smallest := by decide +kernel
  have hf9 : (Cond.fieldLink RX8 9 "LoanScheduleModel" "w" "[I").before _ s9 = true := E.2.2.2.2 _ (List.mem_of_getElem? (i := 1) rfl)
  obtain ⟨⟨hn0, hn1⟩, ⟨hb0, hb1⟩, hL⟩ := id hWI
  refine lv_iconst (v := iI (-1)) Ex Eb dX8_smallest_0 rfl ?_
  refine lv_istore_n (lv' := [(1, .int (iI (-1))), (0, .ref (d 0))]) Ex Eb dX8_smallest_1 rfl hl (by decide) rfl (fun ls hl => ?_)
  refine lv_iconst (v := iI 0) Ex Eb dX8_smallest_2 rfl ?_
  refine lv_istore_n (lv' := [(2, .int (iI 0)), (1, .int (iI (-1))), (0, .ref (d 0))]) Ex Eb dX8_smallest_3 rfl hl (by decide) rfl (fun ls hl => ?_)
  have lp4 : ∀ (n : Nat) (be ix : Int), (w 0 - ix).toNat < n → (0 ≤ ix ∧ ix ≤ w 0) → (be = sml (LWf w) ix.toNat) → (be = -1 ∨ (0 ≤ be ∧ be < ix)) → ∀ (H : Heap) (locs : List Loc) (ls : Array Slot), lo_Wd X ([oX8 (d 0) (M 0) (d 1) (d 2) (M 3) (d 3) (M 5) (d 4) (d 5) (d 6) (M 9) (d 7) (M 11) (M 12) (M 13) (M 14) (M 15) (M 16) (M 17) (M 18) (M 19) (M 20) (M 21) (M 22) (M 23) (M 24) (M 25) (M 26) (M 27) (M 28), arI X (d 1) 122 w]) A9 s9.heap H locs → lv_has ls 3 [(0, .ref (d 0)), (1, .int (iI be)), (2, .int (iI ix))] → W p9 l e9 ({ frames := 2, cells := 0, slots := 0, locals := 43 } : Room) s9 m9 ([.ref (d 0)] : List Value).toArray bl9 me9 c9 H locs 0 0 (MQ bl9 (lo_Qc X ([oX8 (d 0) (M 0) (d 1) (d 2) (M 3) (d 3) (M 5) (d 4) (d 5) (d 6) (M 9) (d 7) (M 11) (M 12) (M 13) (M 14) (M 15) (M 16) (M 17) (M 18) (M 19) (M 20) (M 21) (M 22) (M 23) (M 24) (M 25) (M 26) (M 27) (M 28), arI X (d 1) 122 w]) s9.heap.size (fun v9 w9 => v9 = some (.int (iI (sml (LWf w) (w 0).toNat))) ∧ w9 = [oX8 (d 0) (M 0) (d 1) (d 2) (M 3) (d 3) (M 5) (d 4) (d 5) (d 6) (M 9) (d 7) (M 11) (M 12) (M 13) (M 14) (M 15) (M 16) (M 17) (M 18) (M 19) (M 20) (M 21) (M 22) (M 23) (M 24) (M 25) (M 26) (M 27) (M 28), arI X (d 1) 122 w])) ([.ref (d 0)] : List Value).toArray s9 0 0 A9) (F0 m9 4 ls []) := by
    intro n
    induction n with
    | zero => intro be ix hn; exact absurd hn (Nat.not_lt_zero _)
    | succ n ih4 =>
      intro be ix hn4 iv4_0 iv4_1 iv4_2 H locs ls hw hl
      refine lv_iload_n Ex Eb dX8_smallest_4 rfl (lv_at hl 2 rfl) ?_
      refine lv_aload_n Ex Eb dX8_smallest_5 rfl (lv_at hl 0 rfl) ?_
      refine lo_get E hK hw huRX8 1 hf9 rfl 0 rfl rfl (by decide) (v := .ref (d 1)) rfl dX8_smallest_6 ?_
      refine lv_iconst (v := iI 0) Ex Eb dX8_smallest_9 rfl ?_
      refine lo_iald E hK hw 1 rfl (by omega) dX8_smallest_10 ?_
      refine W.eq (g2 := F0 m9 11 ls [.int (iI (w 0)), .int (iI ix)]) rfl ?_
      refine lo_icmp_ge (tgt := 54) E dX8_smallest_11 (by decide) (by omega) (by omega) (fun c1 => ?_) (fun c1 => ?_)
      · skip
        refine lv_iload_n Ex Eb dX8_smallest_54 rfl (lv_at hl 1 rfl) ?_
        exact lo_iret E hRt hLk hK hAe hw dX8_smallest_55 rfl ⟨by rw [iv4_1, show ix = w 0 by omega], rfl⟩
      · skip
        have hW1 := WI_1 hWI (i := ix) (by omega) (by omega)
        refine lv_aload_n Ex Eb dX8_smallest_14 rfl (lv_at hl 0 rfl) ?_
        refine lv_iload_n Ex Eb dX8_smallest_15 rfl (lv_at hl 2 rfl) ?_
        refine lo_callV (q0 := 0) (rest := []) E hK hw (kX8_isRunning l X d M w ix (by omega) (by omega)) (cwV 1 E.2.2.2.2 gX8_smallest_X8_isRunning rfl rfl rfl (by decide +kernel) ⟨Nat.le_of_ble_eq_true rfl, Nat.le_of_ble_eq_true rfl⟩) rfl rfl [0, 1] rfl (by decide) hl.1 rfl rfl (Nat.le_of_ble_eq_true rfl) dX8_smallest_16 ⟨Nat.le_of_ble_eq_true rfl, Nat.le_of_ble_eq_true rfl⟩ (fun v w1 H locs hq hw => ?_)
        obtain ⟨r2, q16_0, rfl, rfl⟩ := hq
        have hw : lo_Wd X ([oX8 (d 0) (M 0) (d 1) (d 2) (M 3) (d 3) (M 5) (d 4) (d 5) (d 6) (M 9) (d 7) (M 11) (M 12) (M 13) (M 14) (M 15) (M 16) (M 17) (M 18) (M 19) (M 20) (M 21) (M 22) (M 23) (M 24) (M 25) (M 26) (M 27) (M 28), arI X (d 1) 122 w]) A9 s9.heap H locs := hw
        refine W.eq (g2 := F0 m9 19 ls [.int (iI r2)]) rfl ?_
        refine lo_if_eq (tgt := 46) E dX8_smallest_19 (by decide) (by omega) (fun c3 => ?_) (fun c3 => ?_)
        · skip
          refine lv_iload_n Ex Eb dX8_smallest_46 rfl (lv_at hl 1 rfl) ?_
          refine lv_istore_n (lv' := [(1, .int (iI be)), (0, .ref (d 0)), (2, .int (iI ix))]) Ex Eb dX8_smallest_47 rfl hl (by decide) rfl (fun ls hl => ?_)
          refine lo_iinc (lv' := [(2, .int (iI (ix + 1))), (1, .int (iI be)), (0, .ref (d 0))]) E dX8_smallest_48 hl (k := 2) rfl (by decide) rfl (fun ls hl => ?_)
          refine lv_goto (tgt := 4) Ex Eb dX8_smallest_51 (by decide) ?_
          exact ih4 be (ix + 1) (by omega) (by omega) (by first | exact wsml_y (by omega) iv4_1 (by omega) (by omega) | exact wsml_n (by omega) iv4_1 (by omega)) (by omega) _ _ _ hw (lv_sub hl [2, 1, 0] rfl)
        · skip
          refine lv_iload_n Ex Eb dX8_smallest_22 rfl (lv_at hl 1 rfl) ?_
          refine lv_iconst (v := iI (-1)) Ex Eb dX8_smallest_23 rfl ?_
          refine lo_icmp_eq (tgt := 42) E dX8_smallest_24 (by decide) (by omega) (by omega) (fun c4 => ?_) (fun c4 => ?_)
          · skip
            refine lv_iload_n Ex Eb dX8_smallest_42 rfl (lv_at hl 2 rfl) ?_
            refine lv_goto (tgt := 47) Ex Eb dX8_smallest_43 (by decide) ?_
            refine lv_istore_n (lv' := [(1, .int (iI ix)), (0, .ref (d 0)), (2, .int (iI ix))]) Ex Eb dX8_smallest_47 rfl hl (by decide) rfl (fun ls hl => ?_)
            refine lo_iinc (lv' := [(2, .int (iI (ix + 1))), (1, .int (iI ix)), (0, .ref (d 0))]) E dX8_smallest_48 hl (k := 2) rfl (by decide) rfl (fun ls hl => ?_)
            refine lv_goto (tgt := 4) Ex Eb dX8_smallest_51 (by decide) ?_
            exact ih4 ix (ix + 1) (by omega) (by omega) (by first | exact wsml_y (by omega) iv4_1 (by omega) (by omega) | exact wsml_n (by omega) iv4_1 (by omega)) (by omega) _ _ _ hw (lv_sub hl [2, 1, 0] rfl)
          · skip
            refine lv_aload_n Ex Eb dX8_smallest_27 rfl (lv_at hl 0 rfl) ?_
            refine lv_iload_n Ex Eb dX8_smallest_28 rfl (lv_at hl 2 rfl) ?_
            refine lv_iconst (v := iI 1) Ex Eb dX8_smallest_29 rfl ?_
            refine lo_callV (q0 := 0) (rest := []) E hK hw (kX8_of l X d M w ix 1 (by omega) (by omega)) (cwV 2 E.2.2.2.2 gX8_smallest_X8_of rfl rfl rfl (by decide +kernel) ⟨Nat.le_of_ble_eq_true rfl, Nat.le_of_ble_eq_true rfl⟩) rfl rfl [0, 1] rfl (by decide) hl.1 rfl rfl (Nat.le_of_ble_eq_true rfl) dX8_smallest_30 ⟨Nat.le_of_ble_eq_true rfl, Nat.le_of_ble_eq_true rfl⟩ (fun v w1 H locs hq hw => ?_)
            obtain ⟨rfl, rfl⟩ := hq
            have hw : lo_Wd X ([oX8 (d 0) (M 0) (d 1) (d 2) (M 3) (d 3) (M 5) (d 4) (d 5) (d 6) (M 9) (d 7) (M 11) (M 12) (M 13) (M 14) (M 15) (M 16) (M 17) (M 18) (M 19) (M 20) (M 21) (M 22) (M 23) (M 24) (M 25) (M 26) (M 27) (M 28), arI X (d 1) 122 w]) A9 s9.heap H locs := hw
            refine W.eq (g2 := F0 m9 33 ls [.int (iI (wOf w ix 1))]) rfl ?_
            have hW2 := WI_1 hWI (i := be) (by omega) (by omega)
            refine lv_aload_n Ex Eb dX8_smallest_33 rfl (lv_at hl 0 rfl) ?_
            refine lv_iload_n Ex Eb dX8_smallest_34 rfl (lv_at hl 1 rfl) ?_
            refine lv_iconst (v := iI 1) Ex Eb dX8_smallest_35 rfl ?_
            refine lo_callV (q0 := 0) (rest := [.int (iI (wOf w ix 1))]) E hK hw (kX8_of l X d M w be 1 (by omega) (by omega)) (cwV 2 E.2.2.2.2 gX8_smallest_X8_of rfl rfl rfl (by decide +kernel) ⟨Nat.le_of_ble_eq_true rfl, Nat.le_of_ble_eq_true rfl⟩) rfl rfl [0, 1] rfl (by decide) hl.1 rfl rfl (Nat.le_of_ble_eq_true rfl) dX8_smallest_36 ⟨Nat.le_of_ble_eq_true rfl, Nat.le_of_ble_eq_true rfl⟩ (fun v w1 H locs hq hw => ?_)
            obtain ⟨rfl, rfl⟩ := hq
            have hw : lo_Wd X ([oX8 (d 0) (M 0) (d 1) (d 2) (M 3) (d 3) (M 5) (d 4) (d 5) (d 6) (M 9) (d 7) (M 11) (M 12) (M 13) (M 14) (M 15) (M 16) (M 17) (M 18) (M 19) (M 20) (M 21) (M 22) (M 23) (M 24) (M 25) (M 26) (M 27) (M 28), arI X (d 1) 122 w]) A9 s9.heap H locs := hw
            refine W.eq (g2 := F0 m9 39 ls [.int (iI (wOf w be 1)), .int (iI (wOf w ix 1))]) rfl ?_
            refine lo_icmp_ge (tgt := 46) E dX8_smallest_39 (by decide) (by omega) (by omega) (fun c5 => ?_) (fun c5 => ?_)
            · skip
              refine lv_iload_n Ex Eb dX8_smallest_46 rfl (lv_at hl 1 rfl) ?_
              refine lv_istore_n (lv' := [(1, .int (iI be)), (0, .ref (d 0)), (2, .int (iI ix))]) Ex Eb dX8_smallest_47 rfl hl (by decide) rfl (fun ls hl => ?_)
              refine lo_iinc (lv' := [(2, .int (iI (ix + 1))), (1, .int (iI be)), (0, .ref (d 0))]) E dX8_smallest_48 hl (k := 2) rfl (by decide) rfl (fun ls hl => ?_)
              refine lv_goto (tgt := 4) Ex Eb dX8_smallest_51 (by decide) ?_
              exact ih4 be (ix + 1) (by omega) (by omega) (by first | exact wsml_y (by omega) iv4_1 (by omega) (by omega) | exact wsml_n (by omega) iv4_1 (by omega)) (by omega) _ _ _ hw (lv_sub hl [2, 1, 0] rfl)
            · skip
              refine lv_iload_n Ex Eb dX8_smallest_42 rfl (lv_at hl 2 rfl) ?_
              refine lv_goto (tgt := 47) Ex Eb dX8_smallest_43 (by decide) ?_
              refine lv_istore_n (lv' := [(1, .int (iI ix)), (0, .ref (d 0)), (2, .int (iI ix))]) Ex Eb dX8_smallest_47 rfl hl (by decide) rfl (fun ls hl => ?_)
              refine lo_iinc (lv' := [(2, .int (iI (ix + 1))), (1, .int (iI ix)), (0, .ref (d 0))]) E dX8_smallest_48 hl (k := 2) rfl (by decide) rfl (fun ls hl => ?_)
              refine lv_goto (tgt := 4) Ex Eb dX8_smallest_51 (by decide) ?_
              exact ih4 ix (ix + 1) (by omega) (by omega) (by first | exact wsml_y (by omega) iv4_1 (by omega) (by omega) | exact wsml_n (by omega) iv4_1 (by omega)) (by omega) _ _ _ hw (lv_sub hl [2, 1, 0] rfl)
  exact lp4 _ (-1) 0 (Nat.lt_succ_self _) (by omega) (rfl) (by omega) _ _ _ hw (lv_sub hl [2, 1, 0] rfl)
set_option maxHeartbeats 4000000 in
set_option maxRecDepth 100000 in
theorem kX8_openLoans (l : Launch) (X : KX) (d : Nat → Nat) (M w : Nat → Int) (hWI : WI w) : CM l X yX8_openLoans wsX8_openLoans ({ frames := 2, cells := 0, slots := 0, locals := 43 }) [.ref (d 0)] ([oX8 (d 0) (M 0) (d 1) (d 2) (M 3) (d 3) (M 5) (d 4) (d 5) (d 6) (M 9) (d 7) (M 11) (M 12) (M 13) (M 14) (M 15) (M 16) (M 17) (M 18) (M 19) (M 20) (M 21) (M 22) (M 23) (M 24) (M 25) (M 26) (M 27) (M 28), arI X (d 1) 122 w]) (fun v9 w9 => v9 = some (.int (iI (cnt (LWf w) (w 0).toNat))) ∧ w9 = [oX8 (d 0) (M 0) (d 1) (d 2) (M 3) (d 3) (M 5) (d 4) (d 5) (d 6) (M 9) (d 7) (M 11) (M 12) (M 13) (M 14) (M 15) (M 16) (M 17) (M 18) (M 19) (M 20) (M 21) (M 22) (M 23) (M 24) (M 25) (M 26) (M 27) (M 28), arI X (d 1) 122 w]) 0 0 := by
  refine lo_enter (cc := cX8_openLoans) (maxL := 3) (ret := (some .int)) (lv := [(0, .ref (d 0))]) (by decide) rfl rfl (Nat.le_of_ble_eq_true rfl) ?_
  intro p9 e9 s9 m9 bl9 me9 c9 A9 ls hAe E hRt hLk hK hl hw
  have Ex := E.1
  have Eb := E.2.1
  have huRX8 : ∀ w ∈ u_ws RX8 TX8 29, w ∈ wsX8_openLoans := by decide +kernel
  have hf9 : (Cond.fieldLink RX8 9 "LoanScheduleModel" "w" "[I").before _ s9 = true := E.2.2.2.2 _ (List.mem_of_getElem? (i := 1) rfl)
  obtain ⟨⟨hn0, hn1⟩, ⟨hb0, hb1⟩, hL⟩ := id hWI
  refine lv_iconst (v := iI 0) Ex Eb dX8_openLoans_0 rfl ?_
  refine lv_istore_n (lv' := [(1, .int (iI 0)), (0, .ref (d 0))]) Ex Eb dX8_openLoans_1 rfl hl (by decide) rfl (fun ls hl => ?_)
  refine lv_iconst (v := iI 0) Ex Eb dX8_openLoans_2 rfl ?_
  refine lv_istore_n (lv' := [(2, .int (iI 0)), (1, .int (iI 0)), (0, .ref (d 0))]) Ex Eb dX8_openLoans_3 rfl hl (by decide) rfl (fun ls hl => ?_)
  have lp4 : ∀ (n : Nat) (sm ix : Int), (w 0 - ix).toNat < n → (0 ≤ ix ∧ ix ≤ w 0) → (sm = cnt (LWf w) ix.toNat) → ∀ (H : Heap) (locs : List Loc) (ls : Array Slot), lo_Wd X ([oX8 (d 0) (M 0) (d 1) (d 2) (M 3) (d 3) (M 5) (d 4) (d 5) (d 6) (M 9) (d 7) (M 11) (M 12) (M 13) (M 14) (M 15) (M 16) (M 17) (M 18) (M 19) (M 20) (M 21) (M 22) (M 23) (M 24) (M 25) (M 26) (M 27) (M 28), arI X (d 1) 122 w]) A9 s9.heap H locs → lv_has ls 3 [(0, .ref (d 0)), (1, .int (iI sm)), (2, .int (iI ix))] → W p9 l e9 ({ frames := 2, cells := 0, slots := 0, locals := 43 } : Room) s9 m9 ([.ref (d 0)] : List Value).toArray bl9 me9 c9 H locs 0 0 (MQ bl9 (lo_Qc X ([oX8 (d 0) (M 0) (d 1) (d 2) (M 3) (d 3) (M 5) (d 4) (d 5) (d 6) (M 9) (d 7) (M 11) (M 12) (M 13) (M 14) (M 15) (M 16) (M 17) (M 18) (M 19) (M 20) (M 21) (M 22) (M 23) (M 24) (M 25) (M 26) (M 27) (M 28), arI X (d 1) 122 w]) s9.heap.size (fun v9 w9 => v9 = some (.int (iI (cnt (LWf w) (w 0).toNat))) ∧ w9 = [oX8 (d 0) (M 0) (d 1) (d 2) (M 3) (d 3) (M 5) (d 4) (d 5) (d 6) (M 9) (d 7) (M 11) (M 12) (M 13) (M 14) (M 15) (M 16) (M 17) (M 18) (M 19) (M 20) (M 21) (M 22) (M 23) (M 24) (M 25) (M 26) (M 27) (M 28), arI X (d 1) 122 w])) ([.ref (d 0)] : List Value).toArray s9 0 0 A9) (F0 m9 4 ls []) := by
    intro n
    induction n with
    | zero => intro sm ix hn; exact absurd hn (Nat.not_lt_zero _)
    | succ n ih4 =>
      intro sm ix hn4 iv4_0 iv4_1 H locs ls hw hl
      refine lv_iload_n Ex Eb dX8_openLoans_4 rfl (lv_at hl 2 rfl) ?_
      refine lv_aload_n Ex Eb dX8_openLoans_5 rfl (lv_at hl 0 rfl) ?_
      refine lo_get E hK hw huRX8 1 hf9 rfl 0 rfl rfl (by decide) (v := .ref (d 1)) rfl dX8_openLoans_6 ?_
      refine lv_iconst (v := iI 0) Ex Eb dX8_openLoans_9 rfl ?_
      refine lo_iald E hK hw 1 rfl (by omega) dX8_openLoans_10 ?_
      refine W.eq (g2 := F0 m9 11 ls [.int (iI (w 0)), .int (iI ix)]) rfl ?_
      refine lo_icmp_ge (tgt := 36) E dX8_openLoans_11 (by decide) (by omega) (by omega) (fun c1 => ?_) (fun c1 => ?_)
      · skip
        refine lv_iload_n Ex Eb dX8_openLoans_36 rfl (lv_at hl 1 rfl) ?_
        exact lo_iret E hRt hLk hK hAe hw dX8_openLoans_37 rfl ⟨by rw [iv4_1, show ix = w 0 by omega], rfl⟩
      · skip
        have hW1 := WI_1 hWI (i := ix) (by omega) (by omega)
        refine lv_iload_n Ex Eb dX8_openLoans_14 rfl (lv_at hl 1 rfl) ?_
        refine lv_aload_n Ex Eb dX8_openLoans_15 rfl (lv_at hl 0 rfl) ?_
        refine lv_iload_n Ex Eb dX8_openLoans_16 rfl (lv_at hl 2 rfl) ?_
        refine lo_callV (q0 := 0) (rest := [.int (iI sm)]) E hK hw (kX8_isRunning l X d M w ix (by omega) (by omega)) (cwV 1 E.2.2.2.2 gX8_openLoans_X8_isRunning rfl rfl rfl (by decide +kernel) ⟨Nat.le_of_ble_eq_true rfl, Nat.le_of_ble_eq_true rfl⟩) rfl rfl [0, 1] rfl (by decide) hl.1 rfl rfl (Nat.le_of_ble_eq_true rfl) dX8_openLoans_17 ⟨Nat.le_of_ble_eq_true rfl, Nat.le_of_ble_eq_true rfl⟩ (fun v w1 H locs hq hw => ?_)
        obtain ⟨r2, q17_0, rfl, rfl⟩ := hq
        have hw : lo_Wd X ([oX8 (d 0) (M 0) (d 1) (d 2) (M 3) (d 3) (M 5) (d 4) (d 5) (d 6) (M 9) (d 7) (M 11) (M 12) (M 13) (M 14) (M 15) (M 16) (M 17) (M 18) (M 19) (M 20) (M 21) (M 22) (M 23) (M 24) (M 25) (M 26) (M 27) (M 28), arI X (d 1) 122 w]) A9 s9.heap H locs := hw
        refine W.eq (g2 := F0 m9 20 ls [.int (iI r2), .int (iI sm)]) rfl ?_
        refine lo_if_eq (tgt := 27) E dX8_openLoans_20 (by decide) (by omega) (fun c3 => ?_) (fun c3 => ?_)
        · skip
          refine lv_iconst (v := iI 0) Ex Eb dX8_openLoans_27 rfl ?_
          refine lo_iadd E dX8_openLoans_28 ?_
          refine lv_istore_n (lv' := [(1, .int (iI (sm + 0))), (0, .ref (d 0)), (2, .int (iI ix))]) Ex Eb dX8_openLoans_29 rfl hl (by decide) rfl (fun ls hl => ?_)
          refine lo_iinc (lv' := [(2, .int (iI (ix + 1))), (1, .int (iI (sm + 0))), (0, .ref (d 0))]) E dX8_openLoans_30 hl (k := 2) rfl (by decide) rfl (fun ls hl => ?_)
          refine lv_goto (tgt := 4) Ex Eb dX8_openLoans_33 (by decide) ?_
          exact ih4 (sm + 0) (ix + 1) (by omega) (by omega) (by first | exact wcnt_y (by omega) iv4_1 (by omega) | exact wcnt_n (by omega) iv4_1 (by omega)) _ _ _ hw (lv_sub hl [2, 1, 0] rfl)
        · skip
          refine lv_iconst (v := iI 1) Ex Eb dX8_openLoans_23 rfl ?_
          refine lv_goto (tgt := 28) Ex Eb dX8_openLoans_24 (by decide) ?_
          refine lo_iadd E dX8_openLoans_28 ?_
          refine lv_istore_n (lv' := [(1, .int (iI (sm + 1))), (0, .ref (d 0)), (2, .int (iI ix))]) Ex Eb dX8_openLoans_29 rfl hl (by decide) rfl (fun ls hl => ?_)
          refine lo_iinc (lv' := [(2, .int (iI (ix + 1))), (1, .int (iI (sm + 1))), (0, .ref (d 0))]) E dX8_openLoans_30 hl (k := 2) rfl (by decide) rfl (fun ls hl => ?_)
          refine lv_goto (tgt := 4) Ex Eb dX8_openLoans_33 (by decide) ?_
          exact ih4 (sm + 1) (ix + 1) (by omega) (by omega) (by first | exact wcnt_y (by omega) iv4_1 (by omega) | exact wcnt_n (by omega) iv4_1 (by omega)) _ _ _ hw (lv_sub hl [2, 1, 0] rfl)
  exact lp4 _ 0 0 (Nat.lt_succ_self _) (by omega) (rfl) _ _ _ hw (lv_sub hl [2, 1, 0] rfl)
set_option maxHeartbeats 4000000 in
set_option maxRecDepth 100000 in
theorem kX8_dueOfAll (l : Launch) (X : KX) (d : Nat → Nat) (M w : Nat → Int) (hWI : WI w) : CM l X yX8_dueOfAll wsX8_dueOfAll ({ frames := 3, cells := 0, slots := 0, locals := 66 }) [.ref (d 0)] ([oX8 (d 0) (M 0) (d 1) (d 2) (M 3) (d 3) (M 5) (d 4) (d 5) (d 6) (M 9) (d 7) (M 11) (M 12) (M 13) (M 14) (M 15) (M 16) (M 17) (M 18) (M 19) (M 20) (M 21) (M 22) (M 23) (M 24) (M 25) (M 26) (M 27) (M 28), arI X (d 1) 122 w]) (fun v9 w9 => ∃ N : Nat → Int, (sameW M N) ∧ v9 = some (.int (iI (wDue w (w 0).toNat))) ∧ w9 = [oX8 (d 0) (N 0) (d 1) (d 2) (N 3) (d 3) (N 5) (d 4) (d 5) (d 6) (N 9) (d 7) (N 11) (N 12) (N 13) (N 14) (N 15) (N 16) (N 17) (N 18) (N 19) (N 20) (N 21) (N 22) (N 23) (N 24) (N 25) (N 26) (N 27) (N 28), arI X (d 1) 122 w]) 0 0 := by
  refine lo_enter (cc := cX8_dueOfAll) (maxL := 3) (ret := (some .int)) (lv := [(0, .ref (d 0))]) (by decide) rfl rfl (Nat.le_of_ble_eq_true rfl) ?_
  intro p9 e9 s9 m9 bl9 me9 c9 A9 ls hAe E hRt hLk hK hl hw
  have Ex := E.1
  have Eb := E.2.1
  have huRX8 : ∀ w ∈ u_ws RX8 TX8 29, w ∈ wsX8_dueOfAll := by decide +kernel
  have hf9 : (Cond.fieldLink RX8 9 "LoanScheduleModel" "w" "[I").before _ s9 = true := E.2.2.2.2 _ (List.mem_of_getElem? (i := 1) rfl)
  have hf91 : (Cond.fieldLink RX8 91 "LoanScheduleModel" "walkDue" "J").before _ s9 = true := E.2.2.2.2 _ (List.mem_of_getElem? (i := 2) rfl)
  obtain ⟨⟨hn0, hn1⟩, ⟨hb0, hb1⟩, hL⟩ := id hWI
  refine lv_iconst (v := iI 0) Ex Eb dX8_dueOfAll_0 rfl ?_
  refine lv_istore_n (lv' := [(1, .int (iI 0)), (0, .ref (d 0))]) Ex Eb dX8_dueOfAll_1 rfl hl (by decide) rfl (fun ls hl => ?_)
  refine lv_iconst (v := iI 0) Ex Eb dX8_dueOfAll_2 rfl ?_
  refine lv_istore_n (lv' := [(2, .int (iI 0)), (1, .int (iI 0)), (0, .ref (d 0))]) Ex Eb dX8_dueOfAll_3 rfl hl (by decide) rfl (fun ls hl => ?_)
  have lp4 : ∀ (n : Nat) (K : Nat → Int) (sm ix : Int), (w 0 - ix).toNat < n → (sameW M K) → (0 ≤ ix ∧ ix ≤ w 0) → (sm = wDue w ix.toNat) → ∀ (H : Heap) (locs : List Loc) (ls : Array Slot), lo_Wd X ([oX8 (d 0) (K 0) (d 1) (d 2) (K 3) (d 3) (K 5) (d 4) (d 5) (d 6) (K 9) (d 7) (K 11) (K 12) (K 13) (K 14) (K 15) (K 16) (K 17) (K 18) (K 19) (K 20) (K 21) (K 22) (K 23) (K 24) (K 25) (K 26) (K 27) (K 28), arI X (d 1) 122 w]) A9 s9.heap H locs → lv_has ls 3 [(0, .ref (d 0)), (1, .int (iI sm)), (2, .int (iI ix))] → W p9 l e9 ({ frames := 3, cells := 0, slots := 0, locals := 66 } : Room) s9 m9 ([.ref (d 0)] : List Value).toArray bl9 me9 c9 H locs 0 0 (MQ bl9 (lo_Qc X ([oX8 (d 0) (M 0) (d 1) (d 2) (M 3) (d 3) (M 5) (d 4) (d 5) (d 6) (M 9) (d 7) (M 11) (M 12) (M 13) (M 14) (M 15) (M 16) (M 17) (M 18) (M 19) (M 20) (M 21) (M 22) (M 23) (M 24) (M 25) (M 26) (M 27) (M 28), arI X (d 1) 122 w]) s9.heap.size (fun v9 w9 => ∃ N : Nat → Int, (sameW M N) ∧ v9 = some (.int (iI (wDue w (w 0).toNat))) ∧ w9 = [oX8 (d 0) (N 0) (d 1) (d 2) (N 3) (d 3) (N 5) (d 4) (d 5) (d 6) (N 9) (d 7) (N 11) (N 12) (N 13) (N 14) (N 15) (N 16) (N 17) (N 18) (N 19) (N 20) (N 21) (N 22) (N 23) (N 24) (N 25) (N 26) (N 27) (N 28), arI X (d 1) 122 w])) ([.ref (d 0)] : List Value).toArray s9 0 0 A9) (F0 m9 4 ls []) := by
    intro n
    induction n with
    | zero => intro K sm ix hn; exact absurd hn (Nat.not_lt_zero _)
    | succ n ih4 =>
      intro K sm ix hn4 iv4_0 iv4_1 iv4_2 H locs ls hw hl
      refine lv_iload_n Ex Eb dX8_dueOfAll_4 rfl (lv_at hl 2 rfl) ?_
      refine lv_aload_n Ex Eb dX8_dueOfAll_5 rfl (lv_at hl 0 rfl) ?_
      refine lo_get E hK hw huRX8 1 hf9 rfl 0 rfl rfl (by decide) (v := .ref (d 1)) rfl dX8_dueOfAll_6 ?_
      refine lv_iconst (v := iI 0) Ex Eb dX8_dueOfAll_9 rfl ?_
      refine lo_iald E hK hw 1 rfl (by omega) dX8_dueOfAll_10 ?_
      refine W.eq (g2 := F0 m9 11 ls [.int (iI (w 0)), .int (iI ix)]) rfl ?_
      refine lo_icmp_ge (tgt := 41) E dX8_dueOfAll_11 (by decide) (by omega) (by omega) (fun c1 => ?_) (fun c1 => ?_)
      · skip
        refine lv_iload_n Ex Eb dX8_dueOfAll_41 rfl (lv_at hl 1 rfl) ?_
        exact lo_iret E hRt hLk hK hAe hw dX8_dueOfAll_42 rfl ⟨K, (iv4_0), by rw [iv4_2, show ix = w 0 by omega], rfl⟩
      · skip
        have hW1 := WI_1 hWI (i := ix) (by omega) (by omega)
        have hLi := hL ix (by omega) (by omega)
        refine lv_aload_n Ex Eb dX8_dueOfAll_14 rfl (lv_at hl 0 rfl) ?_
        refine lv_iload_n Ex Eb dX8_dueOfAll_15 rfl (lv_at hl 2 rfl) ?_
        refine lo_callV (q0 := 0) (rest := []) E hK hw (kX8_isRunning l X d K w ix (by omega) (by omega)) (cwV 1 E.2.2.2.2 gX8_dueOfAll_X8_isRunning rfl rfl rfl (by decide +kernel) ⟨Nat.le_of_ble_eq_true rfl, Nat.le_of_ble_eq_true rfl⟩) rfl rfl [0, 1] rfl (by decide) hl.1 rfl rfl (Nat.le_of_ble_eq_true rfl) dX8_dueOfAll_16 ⟨Nat.le_of_ble_eq_true rfl, Nat.le_of_ble_eq_true rfl⟩ (fun v w1 H locs hq hw => ?_)
        obtain ⟨r2, q16_0, rfl, rfl⟩ := hq
        have hw : lo_Wd X ([oX8 (d 0) (K 0) (d 1) (d 2) (K 3) (d 3) (K 5) (d 4) (d 5) (d 6) (K 9) (d 7) (K 11) (K 12) (K 13) (K 14) (K 15) (K 16) (K 17) (K 18) (K 19) (K 20) (K 21) (K 22) (K 23) (K 24) (K 25) (K 26) (K 27) (K 28), arI X (d 1) 122 w]) A9 s9.heap H locs := hw
        refine W.eq (g2 := F0 m9 19 ls [.int (iI r2)]) rfl ?_
        refine lo_if_eq (tgt := 35) E dX8_dueOfAll_19 (by decide) (by omega) (fun c3 => ?_) (fun c3 => ?_)
        · skip
          refine lo_iinc (lv' := [(2, .int (iI (ix + 1))), (0, .ref (d 0)), (1, .int (iI sm))]) E dX8_dueOfAll_35 hl (k := 2) rfl (by decide) rfl (fun ls hl => ?_)
          refine lv_goto (tgt := 4) Ex Eb dX8_dueOfAll_38 (by decide) ?_
          exact ih4 K sm (ix + 1) (by omega) (by first | exact iv4_0 | exact iv4_0.tr (sameW.tr (bgM_same _ _ _) (stM_same _ _ _ _))) (by omega) (by rw [wDue_s (by omega), ← iv4_2]; first | rfl | (rw [dueL_c hLi (show wOf w ix 1 ≤ 0 by omega)]; omega)) _ _ _ hw (lv_sub hl [1, 2, 0] rfl)
        · skip
          refine lv_aload_n Ex Eb dX8_dueOfAll_22 rfl (lv_at hl 0 rfl) ?_
          refine lv_iload_n Ex Eb dX8_dueOfAll_23 rfl (lv_at hl 2 rfl) ?_
          refine lo_callV (q0 := 0) (rest := []) E hK hw (kX8_nextMonth l X d K w ix (by omega) (hLi)) (cwV 1 E.2.2.2.2 gX8_dueOfAll_X8_nextMonth rfl rfl rfl (by decide +kernel) ⟨Nat.le_of_ble_eq_true rfl, Nat.le_of_ble_eq_true rfl⟩) rfl rfl [0, 1] rfl (by decide) hl.1 rfl rfl (Nat.le_of_ble_eq_true rfl) dX8_dueOfAll_24 ⟨Nat.le_of_ble_eq_true rfl, Nat.le_of_ble_eq_true rfl⟩ (fun v w1 H locs hq hw => ?_)
          obtain ⟨rfl, rfl⟩ := hq
          have hw : lo_Wd X ([oX8 (d 0) (nmM K w ix 0) (d 1) (d 2) (nmM K w ix 3) (d 3) (nmM K w ix 5) (d 4) (d 5) (d 6) (nmM K w ix 9) (d 7) (nmM K w ix 11) (nmM K w ix 12) (nmM K w ix 13) (nmM K w ix 14) (nmM K w ix 15) (nmM K w ix 16) (nmM K w ix 17) (nmM K w ix 18) (nmM K w ix 19) (nmM K w ix 20) (nmM K w ix 21) (nmM K w ix 22) (nmM K w ix 23) (nmM K w ix 24) (nmM K w ix 25) (nmM K w ix 26) (nmM K w ix 27) (nmM K w ix 28), arI X (d 1) 122 w]) A9 s9.heap H locs := hw
          refine W.eq (g2 := F0 m9 27 ls []) rfl ?_
          refine lv_iload_n Ex Eb dX8_dueOfAll_27 rfl (lv_at hl 1 rfl) ?_
          refine lv_aload_n Ex Eb dX8_dueOfAll_28 rfl (lv_at hl 0 rfl) ?_
          refine lo_get E hK hw huRX8 15 hf91 rfl 0 rfl rfl (by decide) (v := .long (iL (nmM K w ix 15))) rfl dX8_dueOfAll_29 ?_
          refine lo_l2i E dX8_dueOfAll_32 ?_
          refine lo_iadd E dX8_dueOfAll_33 ?_
          refine lv_istore_n (lv' := [(1, .int (iI (sm + (nmM K w ix 15)))), (0, .ref (d 0)), (2, .int (iI ix))]) Ex Eb dX8_dueOfAll_34 rfl hl (by decide) rfl (fun ls hl => ?_)
          refine lo_iinc (lv' := [(2, .int (iI (ix + 1))), (1, .int (iI (sm + (nmM K w ix 15)))), (0, .ref (d 0))]) E dX8_dueOfAll_35 hl (k := 2) rfl (by decide) rfl (fun ls hl => ?_)
          refine lv_goto (tgt := 4) Ex Eb dX8_dueOfAll_38 (by decide) ?_
          exact ih4 (nmM K w ix) (sm + (nmM K w ix 15)) (ix + 1) (by omega) (by first | exact iv4_0 | exact iv4_0.tr (sameW.tr (bgM_same _ _ _) (stM_same _ _ _ _))) (by omega) (by rw [wDue_s (by omega), ← iv4_2]; first | rfl | (rw [dueL_c hLi (show wOf w ix 1 ≤ 0 by omega)]; omega)) _ _ _ hw (lv_sub hl [2, 1, 0] rfl)
  exact lp4 _ M 0 0 (Nat.lt_succ_self _) (sameW.rf) (by omega) (rfl) _ _ _ hw (lv_sub hl [2, 1, 0] rfl)
set_option maxHeartbeats 4000000 in
set_option maxRecDepth 100000 in
theorem kX8_interestOfAll (l : Launch) (X : KX) (d : Nat → Nat) (M w : Nat → Int) (hWI : WI w) : CM l X yX8_interestOfAll wsX8_interestOfAll ({ frames := 1, cells := 0, slots := 0, locals := 22 }) [.ref (d 0)] ([oX8 (d 0) (M 0) (d 1) (d 2) (M 3) (d 3) (M 5) (d 4) (d 5) (d 6) (M 9) (d 7) (M 11) (M 12) (M 13) (M 14) (M 15) (M 16) (M 17) (M 18) (M 19) (M 20) (M 21) (M 22) (M 23) (M 24) (M 25) (M 26) (M 27) (M 28), arI X (d 1) 122 w]) (fun v9 w9 => v9 = some (.int (iI (wFld w 6 (w 0).toNat))) ∧ w9 = [oX8 (d 0) (M 0) (d 1) (d 2) (M 3) (d 3) (M 5) (d 4) (d 5) (d 6) (M 9) (d 7) (M 11) (M 12) (M 13) (M 14) (M 15) (M 16) (M 17) (M 18) (M 19) (M 20) (M 21) (M 22) (M 23) (M 24) (M 25) (M 26) (M 27) (M 28), arI X (d 1) 122 w]) 0 0 := by
  refine lo_enter (cc := cX8_interestOfAll) (maxL := 3) (ret := (some .int)) (lv := [(0, .ref (d 0))]) (by decide) rfl rfl (Nat.le_of_ble_eq_true rfl) ?_
  intro p9 e9 s9 m9 bl9 me9 c9 A9 ls hAe E hRt hLk hK hl hw
  have Ex := E.1
  have Eb := E.2.1
  have huRX8 : ∀ w ∈ u_ws RX8 TX8 29, w ∈ wsX8_interestOfAll := by decide +kernel
  have hf9 : (Cond.fieldLink RX8 9 "LoanScheduleModel" "w" "[I").before _ s9 = true := E.2.2.2.2 _ (List.mem_of_getElem? (i := 1) rfl)
  obtain ⟨⟨hn0, hn1⟩, ⟨hb0, hb1⟩, hL⟩ := id hWI
  refine lv_iconst (v := iI 0) Ex Eb dX8_interestOfAll_0 rfl ?_
  refine lv_istore_n (lv' := [(1, .int (iI 0)), (0, .ref (d 0))]) Ex Eb dX8_interestOfAll_1 rfl hl (by decide) rfl (fun ls hl => ?_)
  refine lv_iconst (v := iI 0) Ex Eb dX8_interestOfAll_2 rfl ?_
  refine lv_istore_n (lv' := [(2, .int (iI 0)), (1, .int (iI 0)), (0, .ref (d 0))]) Ex Eb dX8_interestOfAll_3 rfl hl (by decide) rfl (fun ls hl => ?_)
  have lp4 : ∀ (n : Nat) (sm ix : Int), (w 0 - ix).toNat < n → (0 ≤ ix ∧ ix ≤ w 0) → (sm = wFld w 6 ix.toNat) → ∀ (H : Heap) (locs : List Loc) (ls : Array Slot), lo_Wd X ([oX8 (d 0) (M 0) (d 1) (d 2) (M 3) (d 3) (M 5) (d 4) (d 5) (d 6) (M 9) (d 7) (M 11) (M 12) (M 13) (M 14) (M 15) (M 16) (M 17) (M 18) (M 19) (M 20) (M 21) (M 22) (M 23) (M 24) (M 25) (M 26) (M 27) (M 28), arI X (d 1) 122 w]) A9 s9.heap H locs → lv_has ls 3 [(0, .ref (d 0)), (1, .int (iI sm)), (2, .int (iI ix))] → W p9 l e9 ({ frames := 1, cells := 0, slots := 0, locals := 22 } : Room) s9 m9 ([.ref (d 0)] : List Value).toArray bl9 me9 c9 H locs 0 0 (MQ bl9 (lo_Qc X ([oX8 (d 0) (M 0) (d 1) (d 2) (M 3) (d 3) (M 5) (d 4) (d 5) (d 6) (M 9) (d 7) (M 11) (M 12) (M 13) (M 14) (M 15) (M 16) (M 17) (M 18) (M 19) (M 20) (M 21) (M 22) (M 23) (M 24) (M 25) (M 26) (M 27) (M 28), arI X (d 1) 122 w]) s9.heap.size (fun v9 w9 => v9 = some (.int (iI (wFld w 6 (w 0).toNat))) ∧ w9 = [oX8 (d 0) (M 0) (d 1) (d 2) (M 3) (d 3) (M 5) (d 4) (d 5) (d 6) (M 9) (d 7) (M 11) (M 12) (M 13) (M 14) (M 15) (M 16) (M 17) (M 18) (M 19) (M 20) (M 21) (M 22) (M 23) (M 24) (M 25) (M 26) (M 27) (M 28), arI X (d 1) 122 w])) ([.ref (d 0)] : List Value).toArray s9 0 0 A9) (F0 m9 4 ls []) := by
    intro n
    induction n with
    | zero => intro sm ix hn; exact absurd hn (Nat.not_lt_zero _)
    | succ n ih4 =>
      intro sm ix hn4 iv4_0 iv4_1 H locs ls hw hl
      refine lv_iload_n Ex Eb dX8_interestOfAll_4 rfl (lv_at hl 2 rfl) ?_
      refine lv_aload_n Ex Eb dX8_interestOfAll_5 rfl (lv_at hl 0 rfl) ?_
      refine lo_get E hK hw huRX8 1 hf9 rfl 0 rfl rfl (by decide) (v := .ref (d 1)) rfl dX8_interestOfAll_6 ?_
      refine lv_iconst (v := iI 0) Ex Eb dX8_interestOfAll_9 rfl ?_
      refine lo_iald E hK hw 1 rfl (by omega) dX8_interestOfAll_10 ?_
      refine W.eq (g2 := F0 m9 11 ls [.int (iI (w 0)), .int (iI ix)]) rfl ?_
      refine lo_icmp_ge (tgt := 30) E dX8_interestOfAll_11 (by decide) (by omega) (by omega) (fun c1 => ?_) (fun c1 => ?_)
      · skip
        refine lv_iload_n Ex Eb dX8_interestOfAll_30 rfl (lv_at hl 1 rfl) ?_
        exact lo_iret E hRt hLk hK hAe hw dX8_interestOfAll_31 rfl ⟨by rw [iv4_1, show ix = w 0 by omega], rfl⟩
      · skip
        refine lv_iload_n Ex Eb dX8_interestOfAll_14 rfl (lv_at hl 1 rfl) ?_
        refine lv_aload_n Ex Eb dX8_interestOfAll_15 rfl (lv_at hl 0 rfl) ?_
        refine lv_iload_n Ex Eb dX8_interestOfAll_16 rfl (lv_at hl 2 rfl) ?_
        refine lv_bipush (v := iI 6) Ex Eb dX8_interestOfAll_17 rfl ?_
        refine lo_callV (q0 := 0) (rest := [.int (iI sm)]) E hK hw (kX8_of l X d M w ix 6 (by omega) (by omega)) (cwV 2 E.2.2.2.2 gX8_interestOfAll_X8_of rfl rfl rfl (by decide +kernel) ⟨Nat.le_of_ble_eq_true rfl, Nat.le_of_ble_eq_true rfl⟩) rfl rfl [0, 1] rfl (by decide) hl.1 rfl rfl (Nat.le_of_ble_eq_true rfl) dX8_interestOfAll_19 ⟨Nat.le_of_ble_eq_true rfl, Nat.le_of_ble_eq_true rfl⟩ (fun v w1 H locs hq hw => ?_)
        obtain ⟨rfl, rfl⟩ := hq
        have hw : lo_Wd X ([oX8 (d 0) (M 0) (d 1) (d 2) (M 3) (d 3) (M 5) (d 4) (d 5) (d 6) (M 9) (d 7) (M 11) (M 12) (M 13) (M 14) (M 15) (M 16) (M 17) (M 18) (M 19) (M 20) (M 21) (M 22) (M 23) (M 24) (M 25) (M 26) (M 27) (M 28), arI X (d 1) 122 w]) A9 s9.heap H locs := hw
        refine W.eq (g2 := F0 m9 22 ls [.int (iI (wOf w ix 6)), .int (iI sm)]) rfl ?_
        refine lo_iadd E dX8_interestOfAll_22 ?_
        refine lv_istore_n (lv' := [(1, .int (iI (sm + wOf w ix 6))), (0, .ref (d 0)), (2, .int (iI ix))]) Ex Eb dX8_interestOfAll_23 rfl hl (by decide) rfl (fun ls hl => ?_)
        refine lo_iinc (lv' := [(2, .int (iI (ix + 1))), (1, .int (iI (sm + wOf w ix 6))), (0, .ref (d 0))]) E dX8_interestOfAll_24 hl (k := 2) rfl (by decide) rfl (fun ls hl => ?_)
        refine lv_goto (tgt := 4) Ex Eb dX8_interestOfAll_27 (by decide) ?_
        exact ih4 (sm + wOf w ix 6) (ix + 1) (by omega) (by omega) (by rw [wFld_s (by omega), ← iv4_1]) _ _ _ hw (lv_sub hl [2, 1, 0] rfl)
  exact lp4 _ 0 0 (Nat.lt_succ_self _) (by omega) (rfl) _ _ _ hw (lv_sub hl [2, 1, 0] rfl)
set_option maxHeartbeats 4000000 in
set_option maxRecDepth 100000 in
theorem kX8_allBalances (l : Launch) (X : KX) (d : Nat → Nat) (M w : Nat → Int) (hWI : WI w) : CM l X yX8_allBalances wsX8_allBalances ({ frames := 1, cells := 0, slots := 0, locals := 22 }) [.ref (d 0)] ([oX8 (d 0) (M 0) (d 1) (d 2) (M 3) (d 3) (M 5) (d 4) (d 5) (d 6) (M 9) (d 7) (M 11) (M 12) (M 13) (M 14) (M 15) (M 16) (M 17) (M 18) (M 19) (M 20) (M 21) (M 22) (M 23) (M 24) (M 25) (M 26) (M 27) (M 28), arI X (d 1) 122 w]) (fun v9 w9 => v9 = some (.int (iI (wFld w 1 (w 0).toNat))) ∧ w9 = [oX8 (d 0) (M 0) (d 1) (d 2) (M 3) (d 3) (M 5) (d 4) (d 5) (d 6) (M 9) (d 7) (M 11) (M 12) (M 13) (M 14) (M 15) (M 16) (M 17) (M 18) (M 19) (M 20) (M 21) (M 22) (M 23) (M 24) (M 25) (M 26) (M 27) (M 28), arI X (d 1) 122 w]) 0 0 := by
  refine lo_enter (cc := cX8_allBalances) (maxL := 3) (ret := (some .int)) (lv := [(0, .ref (d 0))]) (by decide) rfl rfl (Nat.le_of_ble_eq_true rfl) ?_
  intro p9 e9 s9 m9 bl9 me9 c9 A9 ls hAe E hRt hLk hK hl hw
  have Ex := E.1
  have Eb := E.2.1
  have huRX8 : ∀ w ∈ u_ws RX8 TX8 29, w ∈ wsX8_allBalances := by decide +kernel
  have hf9 : (Cond.fieldLink RX8 9 "LoanScheduleModel" "w" "[I").before _ s9 = true := E.2.2.2.2 _ (List.mem_of_getElem? (i := 1) rfl)
  obtain ⟨⟨hn0, hn1⟩, ⟨hb0, hb1⟩, hL⟩ := id hWI
  refine lv_iconst (v := iI 0) Ex Eb dX8_allBalances_0 rfl ?_
  refine lv_istore_n (lv' := [(1, .int (iI 0)), (0, .ref (d 0))]) Ex Eb dX8_allBalances_1 rfl hl (by decide) rfl (fun ls hl => ?_)
  refine lv_iconst (v := iI 0) Ex Eb dX8_allBalances_2 rfl ?_
  refine lv_istore_n (lv' := [(2, .int (iI 0)), (1, .int (iI 0)), (0, .ref (d 0))]) Ex Eb dX8_allBalances_3 rfl hl (by decide) rfl (fun ls hl => ?_)
  have lp4 : ∀ (n : Nat) (sm ix : Int), (w 0 - ix).toNat < n → (0 ≤ ix ∧ ix ≤ w 0) → (sm = wFld w 1 ix.toNat) → ∀ (H : Heap) (locs : List Loc) (ls : Array Slot), lo_Wd X ([oX8 (d 0) (M 0) (d 1) (d 2) (M 3) (d 3) (M 5) (d 4) (d 5) (d 6) (M 9) (d 7) (M 11) (M 12) (M 13) (M 14) (M 15) (M 16) (M 17) (M 18) (M 19) (M 20) (M 21) (M 22) (M 23) (M 24) (M 25) (M 26) (M 27) (M 28), arI X (d 1) 122 w]) A9 s9.heap H locs → lv_has ls 3 [(0, .ref (d 0)), (1, .int (iI sm)), (2, .int (iI ix))] → W p9 l e9 ({ frames := 1, cells := 0, slots := 0, locals := 22 } : Room) s9 m9 ([.ref (d 0)] : List Value).toArray bl9 me9 c9 H locs 0 0 (MQ bl9 (lo_Qc X ([oX8 (d 0) (M 0) (d 1) (d 2) (M 3) (d 3) (M 5) (d 4) (d 5) (d 6) (M 9) (d 7) (M 11) (M 12) (M 13) (M 14) (M 15) (M 16) (M 17) (M 18) (M 19) (M 20) (M 21) (M 22) (M 23) (M 24) (M 25) (M 26) (M 27) (M 28), arI X (d 1) 122 w]) s9.heap.size (fun v9 w9 => v9 = some (.int (iI (wFld w 1 (w 0).toNat))) ∧ w9 = [oX8 (d 0) (M 0) (d 1) (d 2) (M 3) (d 3) (M 5) (d 4) (d 5) (d 6) (M 9) (d 7) (M 11) (M 12) (M 13) (M 14) (M 15) (M 16) (M 17) (M 18) (M 19) (M 20) (M 21) (M 22) (M 23) (M 24) (M 25) (M 26) (M 27) (M 28), arI X (d 1) 122 w])) ([.ref (d 0)] : List Value).toArray s9 0 0 A9) (F0 m9 4 ls []) := by
    intro n
    induction n with
    | zero => intro sm ix hn; exact absurd hn (Nat.not_lt_zero _)
    | succ n ih4 =>
      intro sm ix hn4 iv4_0 iv4_1 H locs ls hw hl
      refine lv_iload_n Ex Eb dX8_allBalances_4 rfl (lv_at hl 2 rfl) ?_
      refine lv_aload_n Ex Eb dX8_allBalances_5 rfl (lv_at hl 0 rfl) ?_
      refine lo_get E hK hw huRX8 1 hf9 rfl 0 rfl rfl (by decide) (v := .ref (d 1)) rfl dX8_allBalances_6 ?_
      refine lv_iconst (v := iI 0) Ex Eb dX8_allBalances_9 rfl ?_
      refine lo_iald E hK hw 1 rfl (by omega) dX8_allBalances_10 ?_
      refine W.eq (g2 := F0 m9 11 ls [.int (iI (w 0)), .int (iI ix)]) rfl ?_
      refine lo_icmp_ge (tgt := 29) E dX8_allBalances_11 (by decide) (by omega) (by omega) (fun c1 => ?_) (fun c1 => ?_)
      · skip
        refine lv_iload_n Ex Eb dX8_allBalances_29 rfl (lv_at hl 1 rfl) ?_
        exact lo_iret E hRt hLk hK hAe hw dX8_allBalances_30 rfl ⟨by rw [iv4_1, show ix = w 0 by omega], rfl⟩
      · skip
        refine lv_iload_n Ex Eb dX8_allBalances_14 rfl (lv_at hl 1 rfl) ?_
        refine lv_aload_n Ex Eb dX8_allBalances_15 rfl (lv_at hl 0 rfl) ?_
        refine lv_iload_n Ex Eb dX8_allBalances_16 rfl (lv_at hl 2 rfl) ?_
        refine lv_iconst (v := iI 1) Ex Eb dX8_allBalances_17 rfl ?_
        refine lo_callV (q0 := 0) (rest := [.int (iI sm)]) E hK hw (kX8_of l X d M w ix 1 (by omega) (by omega)) (cwV 2 E.2.2.2.2 gX8_allBalances_X8_of rfl rfl rfl (by decide +kernel) ⟨Nat.le_of_ble_eq_true rfl, Nat.le_of_ble_eq_true rfl⟩) rfl rfl [0, 1] rfl (by decide) hl.1 rfl rfl (Nat.le_of_ble_eq_true rfl) dX8_allBalances_18 ⟨Nat.le_of_ble_eq_true rfl, Nat.le_of_ble_eq_true rfl⟩ (fun v w1 H locs hq hw => ?_)
        obtain ⟨rfl, rfl⟩ := hq
        have hw : lo_Wd X ([oX8 (d 0) (M 0) (d 1) (d 2) (M 3) (d 3) (M 5) (d 4) (d 5) (d 6) (M 9) (d 7) (M 11) (M 12) (M 13) (M 14) (M 15) (M 16) (M 17) (M 18) (M 19) (M 20) (M 21) (M 22) (M 23) (M 24) (M 25) (M 26) (M 27) (M 28), arI X (d 1) 122 w]) A9 s9.heap H locs := hw
        refine W.eq (g2 := F0 m9 21 ls [.int (iI (wOf w ix 1)), .int (iI sm)]) rfl ?_
        refine lo_iadd E dX8_allBalances_21 ?_
        refine lv_istore_n (lv' := [(1, .int (iI (sm + wOf w ix 1))), (0, .ref (d 0)), (2, .int (iI ix))]) Ex Eb dX8_allBalances_22 rfl hl (by decide) rfl (fun ls hl => ?_)
        refine lo_iinc (lv' := [(2, .int (iI (ix + 1))), (1, .int (iI (sm + wOf w ix 1))), (0, .ref (d 0))]) E dX8_allBalances_23 hl (k := 2) rfl (by decide) rfl (fun ls hl => ?_)
        refine lv_goto (tgt := 4) Ex Eb dX8_allBalances_26 (by decide) ?_
        exact ih4 (sm + wOf w ix 1) (ix + 1) (by omega) (by omega) (by rw [wFld_s (by omega), ← iv4_1]) _ _ _ hw (lv_sub hl [2, 1, 0] rfl)
  exact lp4 _ 0 0 (Nat.lt_succ_self _) (by omega) (rfl) _ _ _ hw (lv_sub hl [2, 1, 0] rfl)
set_option maxHeartbeats 4000000 in
set_option maxRecDepth 100000 in
theorem kX8_copy (l : Launch) (X : KX) (a b : Nat) (f g : Nat → Int) : CM l X yX8_copy wsX8_copy ({ frames := 0, cells := 0, slots := 0, locals := 0 }) [.ref a, .ref b] ([arI X a 122 f, arI X b 122 g]) (fun v9 w9 => v9 = none ∧ w9 = [arI X a 122 f, arI X b 122 f]) 0 0 := by
  refine lo_enter (cc := cX8_copy) (maxL := 3) (ret := none) (lv := [(0, .ref a), (1, .ref b)]) (by decide) rfl rfl (Nat.le_of_ble_eq_true rfl) ?_
  intro p9 e9 s9 m9 bl9 me9 c9 A9 ls hAe E hRt hLk hK hl hw
  have Ex := E.1
  have Eb := E.2.1
  refine lv_iconst (v := iI 0) Ex Eb dX8_copy_0 rfl ?_
  refine lv_istore_n (lv' := [(2, .int (iI 0)), (0, .ref a), (1, .ref b)]) Ex Eb dX8_copy_1 rfl hl (by decide) rfl (fun ls hl => ?_)
  have lp2 : ∀ (n : Nat) (u : Nat → Int) (ix : Int), (122 - ix).toNat < n → (0 ≤ ix ∧ ix ≤ 122) → (u = mixI f g ix) → ∀ (H : Heap) (locs : List Loc) (ls : Array Slot), lo_Wd X ([arI X a 122 f, arI X b 122 u]) A9 s9.heap H locs → lv_has ls 3 [(0, .ref a), (1, .ref b), (2, .int (iI ix))] → W p9 l e9 ({ frames := 0, cells := 0, slots := 0, locals := 0 } : Room) s9 m9 ([.ref a, .ref b] : List Value).toArray bl9 me9 c9 H locs 0 0 (MQ bl9 (lo_Qc X ([arI X a 122 f, arI X b 122 g]) s9.heap.size (fun v9 w9 => v9 = none ∧ w9 = [arI X a 122 f, arI X b 122 f])) ([.ref a, .ref b] : List Value).toArray s9 0 0 A9) (F0 m9 2 ls []) := by
    intro n
    induction n with
    | zero => intro u ix hn; exact absurd hn (Nat.not_lt_zero _)
    | succ n ih2 =>
      intro u ix hn2 iv2_0 iv2_1 H locs ls hw hl
      refine lv_iload_n Ex Eb dX8_copy_2 rfl (lv_at hl 2 rfl) ?_
      refine lv_bipush (v := iI 122) Ex Eb dX8_copy_3 rfl ?_
      refine lo_icmp_ge (tgt := 20) E dX8_copy_5 (by decide) (by omega) (by omega) (fun c1 => ?_) (fun c1 => ?_)
      · skip
        have hw := lo_Wd_ext (q0 := 1) (g := aI f) hw rfl (fun j hj => by show iI (u j) = iI (f j); rw [iv2_1, mixI_e (by omega)])
        have hw : lo_Wd X ([arI X a 122 f, arI X b 122 f]) A9 s9.heap H locs := hw
        exact lo_vret E hRt hLk hK hAe hw dX8_copy_20 rfl ⟨rfl, rfl⟩
      · skip
        refine lv_aload_n Ex Eb dX8_copy_8 rfl (lv_at hl 1 rfl) ?_
        refine lv_iload_n Ex Eb dX8_copy_9 rfl (lv_at hl 2 rfl) ?_
        refine lv_aload_n Ex Eb dX8_copy_10 rfl (lv_at hl 0 rfl) ?_
        refine lv_iload_n Ex Eb dX8_copy_11 rfl (lv_at hl 2 rfl) ?_
        refine lo_iald E hK hw 0 rfl (by omega) dX8_copy_12 ?_
        refine lo_iast E hK hw 1 rfl (by omega) (ws' := [arI X a 122 f, arI X b 122 (uI u ix.toNat (f ix.toNat))]) rfl dX8_copy_13 (fun H locs hw => ?_)
        refine lo_iinc (lv' := [(2, .int (iI (ix + 1))), (0, .ref a), (1, .ref b)]) E dX8_copy_14 hl (k := 2) rfl (by decide) rfl (fun ls hl => ?_)
        refine lv_goto (tgt := 2) Ex Eb dX8_copy_17 (by decide) ?_
        exact ih2 (uI u ix.toNat (f ix.toNat)) (ix + 1) (by omega) (by omega) (by rw [iv2_1, mixI_s (by omega)]) _ _ _ hw (lv_sub hl [1, 2, 0] rfl)
  exact lp2 _ g 0 (Nat.lt_succ_self _) (by omega) ((mixI_0 _ _).symm) _ _ _ hw (lv_sub hl [1, 2, 0] rfl)
set_option maxHeartbeats 4000000 in
set_option maxRecDepth 100000 in
theorem kX8_start (l : Launch) (X : KX) (d : Nat → Nat) (M w : Nat → Int) : CM l X yX8_start wsX8_start ({ frames := 0, cells := 0, slots := 0, locals := 0 }) [.ref (d 0)] ([oX8 (d 0) (M 0) (d 1) (d 2) (M 3) (d 3) (M 5) (d 4) (d 5) (d 6) (M 9) (d 7) (M 11) (M 12) (M 13) (M 14) (M 15) (M 16) (M 17) (M 18) (M 19) (M 20) (M 21) (M 22) (M 23) (M 24) (M 25) (M 26) (M 27) (M 28), arI X (d 1) 122 w]) (fun v9 w9 => v9 = none ∧ w9 = [oX8 (d 0) (M 0) (d 1) (d 2) (M 3) (d 3) (M 5) (d 4) (d 5) (d 6) (M 9) (d 7) (M 11) (M 12) (M 13) (M 14) (M 15) (M 16) (M 17) (M 18) (M 19) (M 20) (M 21) (M 22) (M 23) (M 24) (M 25) (M 26) (M 27) (M 28), arI X (d 1) 122 (fun _ => 0)]) 0 0 := by
  refine lo_enter (cc := cX8_start) (maxL := 2) (ret := none) (lv := [(0, .ref (d 0))]) (by decide) rfl rfl (Nat.le_of_ble_eq_true rfl) ?_
  intro p9 e9 s9 m9 bl9 me9 c9 A9 ls hAe E hRt hLk hK hl hw
  have Ex := E.1
  have Eb := E.2.1
  have huRX8 : ∀ w ∈ u_ws RX8 TX8 29, w ∈ wsX8_start := by decide +kernel
  have hf9 : (Cond.fieldLink RX8 9 "LoanScheduleModel" "w" "[I").before _ s9 = true := E.2.2.2.2 _ (List.mem_of_getElem? (i := 1) rfl)
  refine lv_iconst (v := iI 0) Ex Eb dX8_start_0 rfl ?_
  refine lv_istore_n (lv' := [(1, .int (iI 0)), (0, .ref (d 0))]) Ex Eb dX8_start_1 rfl hl (by decide) rfl (fun ls hl => ?_)
  have lp2 : ∀ (n : Nat) (u : Nat → Int) (ix : Int), (122 - ix).toNat < n → (0 ≤ ix ∧ ix ≤ 122) → (u = mixI (fun _ => 0) w ix) → ∀ (H : Heap) (locs : List Loc) (ls : Array Slot), lo_Wd X ([oX8 (d 0) (M 0) (d 1) (d 2) (M 3) (d 3) (M 5) (d 4) (d 5) (d 6) (M 9) (d 7) (M 11) (M 12) (M 13) (M 14) (M 15) (M 16) (M 17) (M 18) (M 19) (M 20) (M 21) (M 22) (M 23) (M 24) (M 25) (M 26) (M 27) (M 28), arI X (d 1) 122 u]) A9 s9.heap H locs → lv_has ls 2 [(0, .ref (d 0)), (1, .int (iI ix))] → W p9 l e9 ({ frames := 0, cells := 0, slots := 0, locals := 0 } : Room) s9 m9 ([.ref (d 0)] : List Value).toArray bl9 me9 c9 H locs 0 0 (MQ bl9 (lo_Qc X ([oX8 (d 0) (M 0) (d 1) (d 2) (M 3) (d 3) (M 5) (d 4) (d 5) (d 6) (M 9) (d 7) (M 11) (M 12) (M 13) (M 14) (M 15) (M 16) (M 17) (M 18) (M 19) (M 20) (M 21) (M 22) (M 23) (M 24) (M 25) (M 26) (M 27) (M 28), arI X (d 1) 122 w]) s9.heap.size (fun v9 w9 => v9 = none ∧ w9 = [oX8 (d 0) (M 0) (d 1) (d 2) (M 3) (d 3) (M 5) (d 4) (d 5) (d 6) (M 9) (d 7) (M 11) (M 12) (M 13) (M 14) (M 15) (M 16) (M 17) (M 18) (M 19) (M 20) (M 21) (M 22) (M 23) (M 24) (M 25) (M 26) (M 27) (M 28), arI X (d 1) 122 (fun _ => 0)])) ([.ref (d 0)] : List Value).toArray s9 0 0 A9) (F0 m9 2 ls []) := by
    intro n
    induction n with
    | zero => intro u ix hn; exact absurd hn (Nat.not_lt_zero _)
    | succ n ih2 =>
      intro u ix hn2 iv2_0 iv2_1 H locs ls hw hl
      refine lv_iload_n Ex Eb dX8_start_2 rfl (lv_at hl 1 rfl) ?_
      refine lv_bipush (v := iI 122) Ex Eb dX8_start_3 rfl ?_
      refine lo_icmp_ge (tgt := 21) E dX8_start_5 (by decide) (by omega) (by omega) (fun c1 => ?_) (fun c1 => ?_)
      · skip
        have hw := lo_Wd_ext (q0 := 1) (g := aI (fun _ => 0)) hw rfl (fun j hj => by show iI (u j) = iI 0; rw [iv2_1, mixI_e (by omega)])
        have hw : lo_Wd X ([oX8 (d 0) (M 0) (d 1) (d 2) (M 3) (d 3) (M 5) (d 4) (d 5) (d 6) (M 9) (d 7) (M 11) (M 12) (M 13) (M 14) (M 15) (M 16) (M 17) (M 18) (M 19) (M 20) (M 21) (M 22) (M 23) (M 24) (M 25) (M 26) (M 27) (M 28), arI X (d 1) 122 (fun _ => 0)]) A9 s9.heap H locs := hw
        exact lo_vret E hRt hLk hK hAe hw dX8_start_21 rfl ⟨rfl, rfl⟩
      · skip
        refine lv_aload_n Ex Eb dX8_start_8 rfl (lv_at hl 0 rfl) ?_
        refine lo_get E hK hw huRX8 1 hf9 rfl 0 rfl rfl (by decide) (v := .ref (d 1)) rfl dX8_start_9 ?_
        refine lv_iload_n Ex Eb dX8_start_12 rfl (lv_at hl 1 rfl) ?_
        refine lv_iconst (v := iI 0) Ex Eb dX8_start_13 rfl ?_
        refine lo_iast E hK hw 1 rfl (by omega) (ws' := [oX8 (d 0) (M 0) (d 1) (d 2) (M 3) (d 3) (M 5) (d 4) (d 5) (d 6) (M 9) (d 7) (M 11) (M 12) (M 13) (M 14) (M 15) (M 16) (M 17) (M 18) (M 19) (M 20) (M 21) (M 22) (M 23) (M 24) (M 25) (M 26) (M 27) (M 28), arI X (d 1) 122 (uI u ix.toNat 0)]) rfl dX8_start_14 (fun H locs hw => ?_)
        refine lo_iinc (lv' := [(1, .int (iI (ix + 1))), (0, .ref (d 0))]) E dX8_start_15 hl (k := 1) rfl (by decide) rfl (fun ls hl => ?_)
        refine lv_goto (tgt := 2) Ex Eb dX8_start_18 (by decide) ?_
        exact ih2 (uI u ix.toNat 0) (ix + 1) (by omega) (by omega) (by rw [iv2_1, ← mixI_s (by omega)]) _ _ _ hw (lv_sub hl [1, 0] rfl)
  exact lp2 _ w 0 (Nat.lt_succ_self _) (by omega) ((mixI_0 _ _).symm) _ _ _ hw (lv_sub hl [1, 0] rfl)
set_option maxHeartbeats 4000000 in
set_option maxRecDepth 100000 in
theorem kX8_outside (l : Launch) (X : KX) (d : Nat → Nat) (M : Nat → Int) (v lo hi co : Int) (hv : i32 v) (hlo : i32 lo) (hhi : i32 hi) : CM l X yX8_outside wsX8_outside ({ frames := 0, cells := 0, slots := 0, locals := 0 }) [.ref (d 0), .int (iI v), .int (iI lo), .int (iI hi), .int (iI co)] ([oX8 (d 0) (M 0) (d 1) (d 2) (M 3) (d 3) (M 5) (d 4) (d 5) (d 6) (M 9) (d 7) (M 11) (M 12) (M 13) (M 14) (M 15) (M 16) (M 17) (M 18) (M 19) (M 20) (M 21) (M 22) (M 23) (M 24) (M 25) (M 26) (M 27) (M 28)]) (fun v9 w9 => ∃ z : Int, ∃ t : Int, ((z = 0 ∧ t = M 0 ∧ lo ≤ v ∧ v ≤ hi) ∨ (z = 1 ∧ t = co ∧ ¬ (lo ≤ v ∧ v ≤ hi))) ∧ v9 = some (.int (iI z)) ∧ w9 = [oX8 (d 0) t (d 1) (d 2) (M 3) (d 3) (M 5) (d 4) (d 5) (d 6) (M 9) (d 7) (M 11) (M 12) (M 13) (M 14) (M 15) (M 16) (M 17) (M 18) (M 19) (M 20) (M 21) (M 22) (M 23) (M 24) (M 25) (M 26) (M 27) (M 28)]) 0 0 := by
  refine lo_enter (cc := cX8_outside) (maxL := 5) (ret := (some .boolean)) (lv := [(0, .ref (d 0)), (1, .int (iI v)), (2, .int (iI lo)), (3, .int (iI hi)), (4, .int (iI co))]) (by decide) rfl rfl (Nat.le_of_ble_eq_true rfl) ?_
  intro p9 e9 s9 m9 bl9 me9 c9 A9 ls hAe E hRt hLk hK hl hw
  have Ex := E.1
  have Eb := E.2.1
  have huRX8 : ∀ w ∈ u_ws RX8 TX8 29, w ∈ wsX8_outside := by decide +kernel
  have hf56 : (Cond.fieldLink RX8 56 "LoanScheduleModel" "thrown" "I").before _ s9 = true := E.2.2.2.2 _ (List.mem_of_getElem? (i := 1) rfl)
  refine lv_iload_n Ex Eb dX8_outside_0 rfl (lv_at hl 1 rfl) ?_
  refine lv_iload_n Ex Eb dX8_outside_1 rfl (lv_at hl 2 rfl) ?_
  refine lo_icmp_lt (tgt := 10) E dX8_outside_2 (by decide) (by omega) (by omega) (fun c1 => ?_) (fun c1 => ?_)
  · skip
    refine lv_aload_n Ex Eb dX8_outside_10 rfl (lv_at hl 0 rfl) ?_
    refine lv_iload Ex Eb dX8_outside_11 (lv_at hl 4 rfl) ?_
    refine lo_put E hK hw huRX8 tyX8 tyX8_ok nmX8 0 hf56 rfl 0 rfl rfl (by decide) rfl rfl rfl rfl (Nat.le_of_ble_eq_true rfl) (ws' := [oX8 (d 0) co (d 1) (d 2) (M 3) (d 3) (M 5) (d 4) (d 5) (d 6) (M 9) (d 7) (M 11) (M 12) (M 13) (M 14) (M 15) (M 16) (M 17) (M 18) (M 19) (M 20) (M 21) (M 22) (M 23) (M 24) (M 25) (M 26) (M 27) (M 28)]) rfl dX8_outside_13 (fun H locs hw => ?_)
    refine lv_iconst (v := iI 1) Ex Eb dX8_outside_16 rfl ?_
    exact lo_zret E hRt hLk hK hAe hw dX8_outside_17 rfl rfl ⟨1, co, (by omega), rfl, rfl⟩
  · skip
    refine lv_iload_n Ex Eb dX8_outside_5 rfl (lv_at hl 1 rfl) ?_
    refine lv_iload_n Ex Eb dX8_outside_6 rfl (lv_at hl 3 rfl) ?_
    refine lo_icmp_le (tgt := 18) E dX8_outside_7 (by decide) (by omega) (by omega) (fun c2 => ?_) (fun c2 => ?_)
    · skip
      refine lv_iconst (v := iI 0) Ex Eb dX8_outside_18 rfl ?_
      exact lo_zret E hRt hLk hK hAe hw dX8_outside_19 rfl rfl ⟨0, (M 0), (by omega), rfl, rfl⟩
    · skip
      refine lv_aload_n Ex Eb dX8_outside_10 rfl (lv_at hl 0 rfl) ?_
      refine lv_iload Ex Eb dX8_outside_11 (lv_at hl 4 rfl) ?_
      refine lo_put E hK hw huRX8 tyX8 tyX8_ok nmX8 0 hf56 rfl 0 rfl rfl (by decide) rfl rfl rfl rfl (Nat.le_of_ble_eq_true rfl) (ws' := [oX8 (d 0) co (d 1) (d 2) (M 3) (d 3) (M 5) (d 4) (d 5) (d 6) (M 9) (d 7) (M 11) (M 12) (M 13) (M 14) (M 15) (M 16) (M 17) (M 18) (M 19) (M 20) (M 21) (M 22) (M 23) (M 24) (M 25) (M 26) (M 27) (M 28)]) rfl dX8_outside_13 (fun H locs hw => ?_)
      refine lv_iconst (v := iI 1) Ex Eb dX8_outside_16 rfl ?_
      exact lo_zret E hRt hLk hK hAe hw dX8_outside_17 rfl rfl ⟨1, co, (by omega), rfl, rfl⟩
set_option maxHeartbeats 4000000 in
set_option maxRecDepth 100000 in
theorem kX8_raise (l : Launch) (X : KX) (d : Nat → Nat) (M : Nat → Int) (b co : Int) (hb : b = 0 ∨ b = 1) : CM l X yX8_raise wsX8_raise ({ frames := 0, cells := 0, slots := 0, locals := 0 }) [.ref (d 0), .int (iI b), .int (iI co)] ([oX8 (d 0) (M 0) (d 1) (d 2) (M 3) (d 3) (M 5) (d 4) (d 5) (d 6) (M 9) (d 7) (M 11) (M 12) (M 13) (M 14) (M 15) (M 16) (M 17) (M 18) (M 19) (M 20) (M 21) (M 22) (M 23) (M 24) (M 25) (M 26) (M 27) (M 28)]) (fun v9 w9 => ∃ t : Int, ((b = 0 ∧ t = M 0) ∨ (b = 1 ∧ t = co)) ∧ v9 = some (.int (iI b)) ∧ w9 = [oX8 (d 0) t (d 1) (d 2) (M 3) (d 3) (M 5) (d 4) (d 5) (d 6) (M 9) (d 7) (M 11) (M 12) (M 13) (M 14) (M 15) (M 16) (M 17) (M 18) (M 19) (M 20) (M 21) (M 22) (M 23) (M 24) (M 25) (M 26) (M 27) (M 28)]) 0 0 := by
  refine lo_enter (cc := cX8_raise) (maxL := 3) (ret := (some .boolean)) (lv := [(0, .ref (d 0)), (1, .int (iI b)), (2, .int (iI co))]) (by decide) rfl rfl (Nat.le_of_ble_eq_true rfl) ?_
  intro p9 e9 s9 m9 bl9 me9 c9 A9 ls hAe E hRt hLk hK hl hw
  have Ex := E.1
  have Eb := E.2.1
  have huRX8 : ∀ w ∈ u_ws RX8 TX8 29, w ∈ wsX8_raise := by decide +kernel
  have hf56 : (Cond.fieldLink RX8 56 "LoanScheduleModel" "thrown" "I").before _ s9 = true := E.2.2.2.2 _ (List.mem_of_getElem? (i := 1) rfl)
  refine lv_iload_n Ex Eb dX8_raise_0 rfl (lv_at hl 1 rfl) ?_
  refine lo_if_eq (tgt := 9) E dX8_raise_1 (by decide) (by omega) (fun c1 => ?_) (fun c1 => ?_)
  · skip
    refine lv_iload_n Ex Eb dX8_raise_9 rfl (lv_at hl 1 rfl) ?_
    exact lo_zret E hRt hLk hK hAe hw dX8_raise_10 (by rcases hb with h | h <;> rw [h] <;> rfl) rfl ⟨M 0, (by omega), rfl, rfl⟩
  · skip
    refine lv_aload_n Ex Eb dX8_raise_4 rfl (lv_at hl 0 rfl) ?_
    refine lv_iload_n Ex Eb dX8_raise_5 rfl (lv_at hl 2 rfl) ?_
    refine lo_put E hK hw huRX8 tyX8 tyX8_ok nmX8 0 hf56 rfl 0 rfl rfl (by decide) rfl rfl rfl rfl (Nat.le_of_ble_eq_true rfl) (ws' := [oX8 (d 0) co (d 1) (d 2) (M 3) (d 3) (M 5) (d 4) (d 5) (d 6) (M 9) (d 7) (M 11) (M 12) (M 13) (M 14) (M 15) (M 16) (M 17) (M 18) (M 19) (M 20) (M 21) (M 22) (M 23) (M 24) (M 25) (M 26) (M 27) (M 28)]) rfl dX8_raise_6 (fun H locs hw => ?_)
    refine lv_iload_n Ex Eb dX8_raise_9 rfl (lv_at hl 1 rfl) ?_
    exact lo_zret E hRt hLk hK hAe hw dX8_raise_10 (by rcases hb with h | h <;> rw [h] <;> rfl) rfl ⟨co, (by omega), rfl, rfl⟩
set_option maxHeartbeats 4000000 in
set_option maxRecDepth 100000 in
theorem kX8_noLoan (l : Launch) (X : KX) (d : Nat → Nat) (M w : Nat → Int) (i : Int) (hWI : WI w) (hi : i32 i) : CM l X yX8_noLoan wsX8_noLoan ({ frames := 1, cells := 0, slots := 0, locals := 24 }) [.ref (d 0), .int (iI i)] ([oX8 (d 0) (M 0) (d 1) (d 2) (M 3) (d 3) (M 5) (d 4) (d 5) (d 6) (M 9) (d 7) (M 11) (M 12) (M 13) (M 14) (M 15) (M 16) (M 17) (M 18) (M 19) (M 20) (M 21) (M 22) (M 23) (M 24) (M 25) (M 26) (M 27) (M 28), arI X (d 1) 122 w]) (fun v9 w9 => ∃ z : Int, ∃ t : Int, ((z = 0 ∧ t = M 0 ∧ 0 ≤ i ∧ i < w 0) ∨ (z = 1 ∧ t = 1 ∧ ¬ (0 ≤ i ∧ i < w 0))) ∧ v9 = some (.int (iI z)) ∧ w9 = [oX8 (d 0) t (d 1) (d 2) (M 3) (d 3) (M 5) (d 4) (d 5) (d 6) (M 9) (d 7) (M 11) (M 12) (M 13) (M 14) (M 15) (M 16) (M 17) (M 18) (M 19) (M 20) (M 21) (M 22) (M 23) (M 24) (M 25) (M 26) (M 27) (M 28), arI X (d 1) 122 w]) 0 0 := by
  refine lo_enter (cc := cX8_noLoan) (maxL := 2) (ret := (some .boolean)) (lv := [(0, .ref (d 0)), (1, .int (iI i))]) (by decide) rfl rfl (Nat.le_of_ble_eq_true rfl) ?_
  intro p9 e9 s9 m9 bl9 me9 c9 A9 ls hAe E hRt hLk hK hl hw
  have Ex := E.1
  have Eb := E.2.1
  have huRX8 : ∀ w ∈ u_ws RX8 TX8 29, w ∈ wsX8_noLoan := by decide +kernel
  have hf9 : (Cond.fieldLink RX8 9 "LoanScheduleModel" "w" "[I").before _ s9 = true := E.2.2.2.2 _ (List.mem_of_getElem? (i := 1) rfl)
  obtain ⟨⟨hn0, hn1⟩, ⟨hb0, hb1⟩, hL⟩ := id hWI
  refine lv_aload_n Ex Eb dX8_noLoan_0 rfl (lv_at hl 0 rfl) ?_
  refine lv_iload_n Ex Eb dX8_noLoan_1 rfl (lv_at hl 1 rfl) ?_
  refine lv_iconst (v := iI 0) Ex Eb dX8_noLoan_2 rfl ?_
  refine lv_aload_n Ex Eb dX8_noLoan_3 rfl (lv_at hl 0 rfl) ?_
  refine lo_get E hK hw huRX8 1 hf9 rfl 0 rfl rfl (by decide) (v := .ref (d 1)) rfl dX8_noLoan_4 ?_
  refine lv_iconst (v := iI 0) Ex Eb dX8_noLoan_7 rfl ?_
  refine lo_iald E hK hw 1 rfl (by omega) dX8_noLoan_8 ?_
  refine W.eq (g2 := F0 m9 9 ls [.int (iI (w 0)), .int (iI 0), .int (iI i), .ref (d 0)]) rfl ?_
  refine lv_iconst (v := iI 1) Ex Eb dX8_noLoan_9 rfl ?_
  refine lo_isub E dX8_noLoan_10 ?_
  refine lv_iconst (v := iI 1) Ex Eb dX8_noLoan_11 rfl ?_
  refine lo_callV (q0 := 0) (rest := []) E hK hw (kX8_outside l X d M i 0 ((w 0) - 1) 1 (by omega) (by omega) (by omega)) (cwV 4 E.2.2.2.2 gX8_noLoan_X8_outside rfl rfl rfl (by decide +kernel) ⟨Nat.le_of_ble_eq_true rfl, Nat.le_of_ble_eq_true rfl⟩) rfl rfl [0] rfl (by decide) hl.1 rfl rfl (Nat.le_of_ble_eq_true rfl) dX8_noLoan_12 ⟨Nat.le_of_ble_eq_true rfl, Nat.le_of_ble_eq_true rfl⟩ (fun v w1 H locs hq hw => ?_)
  obtain ⟨z1, t2, q12_0, rfl, rfl⟩ := hq
  have hw : lo_Wd X ([oX8 (d 0) t2 (d 1) (d 2) (M 3) (d 3) (M 5) (d 4) (d 5) (d 6) (M 9) (d 7) (M 11) (M 12) (M 13) (M 14) (M 15) (M 16) (M 17) (M 18) (M 19) (M 20) (M 21) (M 22) (M 23) (M 24) (M 25) (M 26) (M 27) (M 28), arI X (d 1) 122 w]) A9 s9.heap H locs := hw
  refine W.eq (g2 := F0 m9 15 ls [.int (iI z1)]) rfl ?_
  exact lo_zret E hRt hLk hK hAe hw dX8_noLoan_15 (nar_b (by omega)) rfl ⟨z1, t2, (by omega), rfl, rfl⟩

