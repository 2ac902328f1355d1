set_option maxHeartbeats 4000000 in
set_option maxRecDepth 100000 in
theorem kX8_costAhead (l : Launch) (X : KX) (d : Nat → Nat) (M w : Nat → Int) (i : Int) (hi : 0 ≤ i ∧ i < 6) (hLI : LI (WL w i)) : CM l X yX8_costAhead wsX8_costAhead ({ frames := 3, cells := 0, slots := 0, locals := 74 }) [.ref (d 0), .int (iI i)] ([oX8 (d 0) (M 0) (d 1) (d 2) (M 3) (d 3) (M 5) (d 4) (d 5) (d 6) (M 9) (d 7) (M 11) (M 12) (M 13) (M 14) (M 15) (M 16) (M 17) (M 18) (M 19) (M 20) (M 21) (M 22) (M 23) (M 24) (M 25) (M 26) (M 27) (M 28), arI X (d 1) 122 w]) (fun v9 w9 => v9 = some (.int (iI (ahM M w i 17))) ∧ w9 = [oX8 (d 0) (ahM M w i 0) (d 1) (d 2) (ahM M w i 3) (d 3) (ahM M w i 5) (d 4) (d 5) (d 6) (ahM M w i 9) (d 7) (ahM M w i 11) (ahM M w i 12) (ahM M w i 13) (ahM M w i 14) (ahM M w i 15) (ahM M w i 16) (ahM M w i 17) (ahM M w i 18) (ahM M w i 19) (ahM M w i 20) (ahM M w i 21) (ahM M w i 22) (ahM M w i 23) (ahM M w i 24) (ahM M w i 25) (ahM M w i 26) (ahM M w i 27) (ahM M w i 28), arI X (d 1) 122 w]) 0 0 := by
  refine lo_enter (cc := cX8_costAhead) (maxL := 3) (ret := (some .int)) (lv := [(0, .ref (d 0)), (1, .int (iI i))]) (by decide) rfl rfl (Nat.le_of_ble_eq_true rfl) ?_
  intro p9 e9 s9 m9 bl9 me9 c9 A9 ls hAe E hRt hLk hK hl hw
  have Ex := E.1
  have Eb := E.2.1
  have huRX8 : ∀ w ∈ u_ws RX8 TX8 29, w ∈ wsX8_costAhead := by decide +kernel
  have hf88 : (Cond.fieldLink RX8 88 "LoanScheduleModel" "walkCost" "J").before _ s9 = true := E.2.2.2.2 _ (List.mem_of_getElem? (i := 1) rfl)
  have h120 := ahM_120 (M := M) hLI
  have hla := lastL_r 120 (WL w i) 0 hLI (by omega) (by omega)
  have h15 := h120.2.1
  refine lv_aload_n Ex Eb dX8_costAhead_0 rfl (lv_at hl 0 rfl) ?_
  refine lv_iload_n Ex Eb dX8_costAhead_1 rfl (lv_at hl 1 rfl) ?_
  refine lo_callV (q0 := 0) (rest := []) E hK hw (kX8_ahead l X d M w i (hi) (hLI)) (cwV 1 E.2.2.2.2 gX8_costAhead_X8_ahead rfl rfl rfl (by decide +kernel) ⟨Nat.le_of_ble_eq_true rfl, Nat.le_of_ble_eq_true rfl⟩) rfl rfl [0, 1] rfl (by decide) hl.1 rfl rfl (Nat.le_of_ble_eq_true rfl) dX8_costAhead_2 ⟨Nat.le_of_ble_eq_true rfl, Nat.le_of_ble_eq_true rfl⟩ (fun v w1 H locs hq hw => ?_)
  obtain ⟨q2_0, rfl, rfl⟩ := hq
  have hw : lo_Wd X ([oX8 (d 0) (ahM M w i 0) (d 1) (d 2) (ahM M w i 3) (d 3) (ahM M w i 5) (d 4) (d 5) (d 6) (ahM M w i 9) (d 7) (ahM M w i 11) (ahM M w i 12) (ahM M w i 13) (ahM M w i 14) (ahM M w i 15) (ahM M w i 16) (ahM M w i 17) (ahM M w i 18) (ahM M w i 19) (ahM M w i 20) (ahM M w i 21) (ahM M w i 22) (ahM M w i 23) (ahM M w i 24) (ahM M w i 25) (ahM M w i 26) (ahM M w i 27) (ahM M w i 28), arI X (d 1) 122 w]) A9 s9.heap H locs := hw
  refine W.eq (g2 := F0 m9 5 ls [.int (iI (ahM M w i 15))]) rfl ?_
  refine lv_istore_n (lv' := [(2, .int (iI (ahM M w i 15))), (0, .ref (d 0)), (1, .int (iI i))]) Ex Eb dX8_costAhead_5 rfl hl (by decide) rfl (fun ls hl => ?_)
  refine lv_iload_n Ex Eb dX8_costAhead_6 rfl (lv_at hl 0 rfl) ?_
  refine lo_if_ge (tgt := 14) E dX8_costAhead_7 (by decide) (by omega) (fun c1 => ?_) (fun c1 => ?_)
  · skip
    refine lv_aload_n Ex Eb dX8_costAhead_14 rfl (lv_at hl 1 rfl) ?_
    refine lo_get E hK hw huRX8 17 hf88 rfl 0 rfl rfl (by decide) (v := .long (iL (ahM M w i 17))) rfl dX8_costAhead_15 ?_
    refine lo_l2i E dX8_costAhead_18 ?_
    exact lo_iret E hRt hLk hK hAe hw dX8_costAhead_19 rfl ⟨rfl, rfl⟩
  · exact absurd c1 (by omega)
set_option maxHeartbeats 4000000 in
set_option maxRecDepth 100000 in
theorem kX8_book (l : Launch) (X : KX) (d : Nat → Nat) (M w : Nat → Int) (lo am it : Int) (hk1 : 0 ≤ w 1 ∧ w 1 ≤ 20) : CM l X yX8_book wsX8_book ({ frames := 0, cells := 0, slots := 0, locals := 0 }) [.ref (d 0), .int (iI lo), .int (iI am), .int (iI it)] ([oX8 (d 0) (M 0) (d 1) (d 2) (M 3) (d 3) (M 5) (d 4) (d 5) (d 6) (M 9) (d 7) (M 11) (M 12) (M 13) (M 14) (M 15) (M 16) (M 17) (M 18) (M 19) (M 20) (M 21) (M 22) (M 23) (M 24) (M 25) (M 26) (M 27) (M 28), arI X (d 1) 122 w]) (fun v9 w9 => v9 = none ∧ w9 = [oX8 (d 0) (M 0) (d 1) (d 2) (M 3) (d 3) (M 5) (d 4) (d 5) (d 6) (M 9) (d 7) (M 11) (M 12) (M 13) (M 14) (M 15) (M 16) (M 17) (M 18) (M 19) (M 20) (M 21) (M 22) (M 23) (M 24) (M 25) (M 26) (M 27) (M 28), arI X (d 1) 122 (wBook w lo am it)]) 0 0 := by
  refine lo_enter (cc := cX8_book) (maxL := 5) (ret := none) (lv := [(0, .ref (d 0)), (1, .int (iI lo)), (2, .int (iI am)), (3, .int (iI it))]) (by decide) rfl rfl (Nat.le_of_ble_eq_true rfl) ?_
  intro p9 e9 s9 m9 bl9 me9 c9 A9 ls hAe E hRt hLk hK hl hw
  have Ex := E.1
  have Eb := E.2.1
  have huRX8 : ∀ w ∈ u_ws RX8 TX8 29, w ∈ wsX8_book := by decide +kernel
  have hf9 : (Cond.fieldLink RX8 9 "LoanScheduleModel" "w" "[I").before _ s9 = true := E.2.2.2.2 _ (List.mem_of_getElem? (i := 1) rfl)
  refine lv_bipush (v := iI 59) Ex Eb dX8_book_0 rfl ?_
  refine lv_istore (lv' := [(4, .int (iI 59)), (0, .ref (d 0)), (1, .int (iI lo)), (2, .int (iI am)), (3, .int (iI it))]) Ex Eb dX8_book_2 hl (by decide) rfl (fun ls hl => ?_)
  have lp4 : ∀ (n : Nat) (u : Nat → Int) (ix : Int), ix.toNat < n → (2 ≤ ix ∧ ix ≤ 59) → (u = wSh w ix) → ∀ (H : Heap) (locs : List Loc) (ls : Array Slot), lo_Wd X ([oX8 (d 0) (M 0) (d 1) (d 2) (M 3) (d 3) (M 5) (d 4) (d 5) (d 6) (M 9) (d 7) (M 11) (M 12) (M 13) (M 14) (M 15) (M 16) (M 17) (M 18) (M 19) (M 20) (M 21) (M 22) (M 23) (M 24) (M 25) (M 26) (M 27) (M 28), arI X (d 1) 122 u]) A9 s9.heap H locs → lv_has ls 5 [(0, .ref (d 0)), (1, .int (iI lo)), (2, .int (iI am)), (3, .int (iI it)), (4, .int (iI ix))] → W p9 l e9 ({ frames := 0, cells := 0, slots := 0, locals := 0 } : Room) s9 m9 ([.ref (d 0), .int (iI lo), .int (iI am), .int (iI it)] : List Value).toArray bl9 me9 c9 H locs 0 0 (MQ bl9 (lo_Qc X ([oX8 (d 0) (M 0) (d 1) (d 2) (M 3) (d 3) (M 5) (d 4) (d 5) (d 6) (M 9) (d 7) (M 11) (M 12) (M 13) (M 14) (M 15) (M 16) (M 17) (M 18) (M 19) (M 20) (M 21) (M 22) (M 23) (M 24) (M 25) (M 26) (M 27) (M 28), arI X (d 1) 122 w]) s9.heap.size (fun v9 w9 => v9 = none ∧ w9 = [oX8 (d 0) (M 0) (d 1) (d 2) (M 3) (d 3) (M 5) (d 4) (d 5) (d 6) (M 9) (d 7) (M 11) (M 12) (M 13) (M 14) (M 15) (M 16) (M 17) (M 18) (M 19) (M 20) (M 21) (M 22) (M 23) (M 24) (M 25) (M 26) (M 27) (M 28), arI X (d 1) 122 (wBook w lo am it)])) ([.ref (d 0), .int (iI lo), .int (iI am), .int (iI it)] : List Value).toArray s9 0 0 A9) (F0 m9 4 ls []) := by
    intro n
    induction n with
    | zero => intro u ix hn; exact absurd hn (Nat.not_lt_zero _)
    | succ n ih4 =>
      intro u ix hn4 iv4_0 iv4_1 H locs ls hw hl
      refine lv_iload Ex Eb dX8_book_4 (lv_at hl 4 rfl) ?_
      refine lv_iconst (v := iI 3) Ex Eb dX8_book_6 rfl ?_
      refine lo_icmp_lt (tgt := 36) E dX8_book_7 (by decide) (by omega) (by omega) (fun c1 => ?_) (fun c1 => ?_)
      · skip
        have hux : u = wSh w 2 := by rw [iv4_1, show ix = 2 by omega]
        have hu1 : u 1 = w 1 := by rw [hux]; rfl
        refine lv_aload_n Ex Eb dX8_book_36 rfl (lv_at hl 0 rfl) ?_
        refine lo_get E hK hw huRX8 1 hf9 rfl 0 rfl rfl (by decide) (v := .ref (d 1)) rfl dX8_book_37 ?_
        refine lv_iconst (v := iI 2) Ex Eb dX8_book_40 rfl ?_
        refine lv_iload_n Ex Eb dX8_book_41 rfl (lv_at hl 1 rfl) ?_
        refine lo_iast E hK hw 1 rfl (by omega) (ws' := [oX8 (d 0) (M 0) (d 1) (d 2) (M 3) (d 3) (M 5) (d 4) (d 5) (d 6) (M 9) (d 7) (M 11) (M 12) (M 13) (M 14) (M 15) (M 16) (M 17) (M 18) (M 19) (M 20) (M 21) (M 22) (M 23) (M 24) (M 25) (M 26) (M 27) (M 28), arI X (d 1) 122 (uI u 2 lo)]) rfl dX8_book_42 (fun H locs hw => ?_)
        refine lv_aload_n Ex Eb dX8_book_43 rfl (lv_at hl 0 rfl) ?_
        refine lo_get E hK hw huRX8 1 hf9 rfl 0 rfl rfl (by decide) (v := .ref (d 1)) rfl dX8_book_44 ?_
        refine lv_iconst (v := iI 3) Ex Eb dX8_book_47 rfl ?_
        refine lv_iload_n Ex Eb dX8_book_48 rfl (lv_at hl 2 rfl) ?_
        refine lo_iast E hK hw 1 rfl (by omega) (ws' := [oX8 (d 0) (M 0) (d 1) (d 2) (M 3) (d 3) (M 5) (d 4) (d 5) (d 6) (M 9) (d 7) (M 11) (M 12) (M 13) (M 14) (M 15) (M 16) (M 17) (M 18) (M 19) (M 20) (M 21) (M 22) (M 23) (M 24) (M 25) (M 26) (M 27) (M 28), arI X (d 1) 122 (uI (uI u 2 lo) 3 am)]) rfl dX8_book_49 (fun H locs hw => ?_)
        refine lv_aload_n Ex Eb dX8_book_50 rfl (lv_at hl 0 rfl) ?_
        refine lo_get E hK hw huRX8 1 hf9 rfl 0 rfl rfl (by decide) (v := .ref (d 1)) rfl dX8_book_51 ?_
        refine lv_iconst (v := iI 4) Ex Eb dX8_book_54 rfl ?_
        refine lv_iload_n Ex Eb dX8_book_55 rfl (lv_at hl 3 rfl) ?_
        refine lo_iast E hK hw 1 rfl (by omega) (ws' := [oX8 (d 0) (M 0) (d 1) (d 2) (M 3) (d 3) (M 5) (d 4) (d 5) (d 6) (M 9) (d 7) (M 11) (M 12) (M 13) (M 14) (M 15) (M 16) (M 17) (M 18) (M 19) (M 20) (M 21) (M 22) (M 23) (M 24) (M 25) (M 26) (M 27) (M 28), arI X (d 1) 122 (uI (uI (uI u 2 lo) 3 am) 4 it)]) rfl dX8_book_56 (fun H locs hw => ?_)
        refine lv_aload_n Ex Eb dX8_book_57 rfl (lv_at hl 0 rfl) ?_
        refine lo_get E hK hw huRX8 1 hf9 rfl 0 rfl rfl (by decide) (v := .ref (d 1)) rfl dX8_book_58 ?_
        refine lv_iconst (v := iI 1) Ex Eb dX8_book_61 rfl ?_
        refine lv_dup2_11 Ex Eb dX8_book_62 rfl rfl ?_
        refine lo_iald E hK hw 1 rfl (by omega) dX8_book_63 ?_
        refine W.eq (g2 := F0 m9 64 ls [.int (iI (u 1)), .int (iI 1), .ref (d 1)]) rfl ?_
        refine lv_aload_n Ex Eb dX8_book_64 rfl (lv_at hl 0 rfl) ?_
        refine lo_get E hK hw huRX8 1 hf9 rfl 0 rfl rfl (by decide) (v := .ref (d 1)) rfl dX8_book_65 ?_
        refine lv_iconst (v := iI 1) Ex Eb dX8_book_68 rfl ?_
        refine lo_iald E hK hw 1 rfl (by omega) dX8_book_69 ?_
        refine W.eq (g2 := F0 m9 70 ls [.int (iI (u 1)), .int (iI (u 1)), .int (iI 1), .ref (d 1)]) rfl ?_
        refine lv_bipush (v := iI 20) Ex Eb dX8_book_70 rfl ?_
        refine lo_icmp_ge (tgt := 79) E dX8_book_72 (by decide) (by omega) (by omega) (fun c2 => ?_) (fun c2 => ?_)
        · skip
          refine lv_iconst (v := iI 0) Ex Eb dX8_book_79 rfl ?_
          refine lo_iadd E dX8_book_80 ?_
          refine lo_iast E hK hw 1 rfl (by omega) (ws' := [oX8 (d 0) (M 0) (d 1) (d 2) (M 3) (d 3) (M 5) (d 4) (d 5) (d 6) (M 9) (d 7) (M 11) (M 12) (M 13) (M 14) (M 15) (M 16) (M 17) (M 18) (M 19) (M 20) (M 21) (M 22) (M 23) (M 24) (M 25) (M 26) (M 27) (M 28), arI X (d 1) 122 (uI (uI (uI (uI u 2 lo) 3 am) 4 it) 1 ((u 1) + 0))]) rfl dX8_book_81 (fun H locs hw => ?_)
          exact lo_vret E hRt hLk hK hAe hw dX8_book_82 rfl ⟨rfl, by first | (rw [show u 1 + 1 = min (w 1 + 1) 20 by omega, hux]; rfl) | (rw [show u 1 + 0 = min (w 1 + 1) 20 by omega, hux]; rfl)⟩
        · skip
          refine lv_iconst (v := iI 1) Ex Eb dX8_book_75 rfl ?_
          refine lv_goto (tgt := 80) Ex Eb dX8_book_76 (by decide) ?_
          refine lo_iadd E dX8_book_80 ?_
          refine lo_iast E hK hw 1 rfl (by omega) (ws' := [oX8 (d 0) (M 0) (d 1) (d 2) (M 3) (d 3) (M 5) (d 4) (d 5) (d 6) (M 9) (d 7) (M 11) (M 12) (M 13) (M 14) (M 15) (M 16) (M 17) (M 18) (M 19) (M 20) (M 21) (M 22) (M 23) (M 24) (M 25) (M 26) (M 27) (M 28), arI X (d 1) 122 (uI (uI (uI (uI u 2 lo) 3 am) 4 it) 1 ((u 1) + 1))]) rfl dX8_book_81 (fun H locs hw => ?_)
          exact lo_vret E hRt hLk hK hAe hw dX8_book_82 rfl ⟨rfl, by first | (rw [show u 1 + 1 = min (w 1 + 1) 20 by omega, hux]; rfl) | (rw [show u 1 + 0 = min (w 1 + 1) 20 by omega, hux]; rfl)⟩
      · skip
        refine lv_aload_n Ex Eb dX8_book_10 rfl (lv_at hl 0 rfl) ?_
        refine lo_get E hK hw huRX8 1 hf9 rfl 0 rfl rfl (by decide) (v := .ref (d 1)) rfl dX8_book_11 ?_
        refine lv_iconst (v := iI 2) Ex Eb dX8_book_14 rfl ?_
        refine lv_iload Ex Eb dX8_book_15 (lv_at hl 4 rfl) ?_
        refine lo_iadd E dX8_book_17 ?_
        refine lv_aload_n Ex Eb dX8_book_18 rfl (lv_at hl 0 rfl) ?_
        refine lo_get E hK hw huRX8 1 hf9 rfl 0 rfl rfl (by decide) (v := .ref (d 1)) rfl dX8_book_19 ?_
        refine lv_iconst (v := iI 2) Ex Eb dX8_book_22 rfl ?_
        refine lv_iload Ex Eb dX8_book_23 (lv_at hl 4 rfl) ?_
        refine lo_iadd E dX8_book_25 ?_
        refine lv_iconst (v := iI 3) Ex Eb dX8_book_26 rfl ?_
        refine lo_isub E dX8_book_27 ?_
        refine lo_iald E hK hw 1 rfl (by omega) dX8_book_28 ?_
        refine lo_iast E hK hw 1 rfl (by omega) (ws' := [oX8 (d 0) (M 0) (d 1) (d 2) (M 3) (d 3) (M 5) (d 4) (d 5) (d 6) (M 9) (d 7) (M 11) (M 12) (M 13) (M 14) (M 15) (M 16) (M 17) (M 18) (M 19) (M 20) (M 21) (M 22) (M 23) (M 24) (M 25) (M 26) (M 27) (M 28), arI X (d 1) 122 (uI u (2 + ix).toNat (u ((2 + ix) - 3).toNat))]) rfl dX8_book_29 (fun H locs hw => ?_)
        refine lo_iinc (lv' := [(4, .int (iI (ix + -1))), (0, .ref (d 0)), (1, .int (iI lo)), (2, .int (iI am)), (3, .int (iI it))]) E dX8_book_30 hl (k := 4) rfl (by decide) rfl (fun ls hl => ?_)
        refine lv_goto (tgt := 4) Ex Eb dX8_book_33 (by decide) ?_
        exact ih4 (uI u (2 + ix).toNat (u ((2 + ix) - 3).toNat)) (ix + -1) (by omega) (by omega) (by rw [iv4_1, wSh_s (by omega) (by omega)]; rfl) _ _ _ hw (lv_sub hl [1, 2, 3, 4, 0] rfl)
  exact lp4 _ w 59 (Nat.lt_succ_self _) (by omega) ((wSh_0 w).symm) _ _ _ hw (lv_sub hl [1, 2, 3, 4, 0] rfl)
set_option maxHeartbeats 4000000 in
set_option maxRecDepth 100000 in
theorem kX8_closeIfPaid (l : Launch) (X : KX) (d : Nat → Nat) (M w : Nat → Int) (i : Int) (hi : 0 ≤ i ∧ i < 6) (hb : i32 (wOf w i 1)) : CM l X yX8_closeIfPaid wsX8_closeIfPaid ({ frames := 2, cells := 0, slots := 0, locals := 43 }) [.ref (d 0), .int (iI i)] ([oX8 (d 0) (M 0) (d 1) (d 2) (M 3) (d 3) (M 5) (d 4) (d 5) (d 6) (M 9) (d 7) (M 11) (M 12) (M 13) (M 14) (M 15) (M 16) (M 17) (M 18) (M 19) (M 20) (M 21) (M 22) (M 23) (M 24) (M 25) (M 26) (M 27) (M 28), arI X (d 1) 122 w]) (fun v9 w9 => v9 = none ∧ w9 = [oX8 (d 0) (M 0) (d 1) (d 2) (M 3) (d 3) (M 5) (d 4) (d 5) (d 6) (M 9) (d 7) (M 11) (M 12) (M 13) (M 14) (M 15) (M 16) (M 17) (M 18) (M 19) (M 20) (M 21) (M 22) (M 23) (M 24) (M 25) (M 26) (M 27) (M 28), arI X (d 1) 122 (wClose w i)]) 0 0 := by
  refine lo_enter (cc := cX8_closeIfPaid) (maxL := 2) (ret := none) (lv := [(0, .ref (d 0)), (1, .int (iI i))]) (by decide) rfl rfl (Nat.le_of_ble_eq_true rfl) ?_
  intro p9 e9 s9 m9 bl9 me9 c9 A9 ls hAe E hRt hLk hK hl hw
  have Ex := E.1
  have Eb := E.2.1
  refine lv_aload_n Ex Eb dX8_closeIfPaid_0 rfl (lv_at hl 0 rfl) ?_
  refine lv_iload_n Ex Eb dX8_closeIfPaid_1 rfl (lv_at hl 1 rfl) ?_
  refine lo_callV (q0 := 0) (rest := []) E hK hw (kX8_isRunning l X d M w i (by omega) (by omega)) (cwV 1 E.2.2.2.2 gX8_closeIfPaid_X8_isRunning rfl rfl rfl (by decide +kernel) ⟨Nat.le_of_ble_eq_true rfl, Nat.le_of_ble_eq_true rfl⟩) rfl rfl [0, 1] rfl (by decide) hl.1 rfl rfl (Nat.le_of_ble_eq_true rfl) dX8_closeIfPaid_2 ⟨Nat.le_of_ble_eq_true rfl, Nat.le_of_ble_eq_true rfl⟩ (fun v w1 H locs hq hw => ?_)
  obtain ⟨r1, q2_0, rfl, rfl⟩ := hq
  have hw : lo_Wd X ([oX8 (d 0) (M 0) (d 1) (d 2) (M 3) (d 3) (M 5) (d 4) (d 5) (d 6) (M 9) (d 7) (M 11) (M 12) (M 13) (M 14) (M 15) (M 16) (M 17) (M 18) (M 19) (M 20) (M 21) (M 22) (M 23) (M 24) (M 25) (M 26) (M 27) (M 28), arI X (d 1) 122 w]) A9 s9.heap H locs := hw
  refine W.eq (g2 := F0 m9 5 ls [.int (iI r1)]) rfl ?_
  refine lo_if_ne (tgt := 29) E dX8_closeIfPaid_5 (by decide) (by omega) (fun c2 => ?_) (fun c2 => ?_)
  · skip
    exact lo_vret E hRt hLk hK hAe hw dX8_closeIfPaid_29 rfl ⟨rfl, by first | (rw [show wClose w i = wPut (wPut (wPut w i 3 0) i 4 0) i 5 0 from if_pos (by omega)]) | (rw [show wClose w i = w from if_neg (by omega)])⟩
  · skip
    refine lv_aload_n Ex Eb dX8_closeIfPaid_8 rfl (lv_at hl 0 rfl) ?_
    refine lv_iload_n Ex Eb dX8_closeIfPaid_9 rfl (lv_at hl 1 rfl) ?_
    refine lv_iconst (v := iI 3) Ex Eb dX8_closeIfPaid_10 rfl ?_
    refine lv_iconst (v := iI 0) Ex Eb dX8_closeIfPaid_11 rfl ?_
    refine lo_callV (q0 := 0) (rest := []) E hK hw (kX8_put l X d M w i 3 0 (by omega) (by omega)) (cwV 3 E.2.2.2.2 gX8_closeIfPaid_X8_put rfl rfl rfl (by decide +kernel) ⟨Nat.le_of_ble_eq_true rfl, Nat.le_of_ble_eq_true rfl⟩) rfl rfl [0, 1] rfl (by decide) hl.1 rfl rfl (Nat.le_of_ble_eq_true rfl) dX8_closeIfPaid_12 ⟨Nat.le_of_ble_eq_true rfl, Nat.le_of_ble_eq_true rfl⟩ (fun v w1 H locs hq hw => ?_)
    obtain ⟨rfl, rfl⟩ := hq
    have hw : lo_Wd X ([oX8 (d 0) (M 0) (d 1) (d 2) (M 3) (d 3) (M 5) (d 4) (d 5) (d 6) (M 9) (d 7) (M 11) (M 12) (M 13) (M 14) (M 15) (M 16) (M 17) (M 18) (M 19) (M 20) (M 21) (M 22) (M 23) (M 24) (M 25) (M 26) (M 27) (M 28), arI X (d 1) 122 (wPut w i 3 0)]) A9 s9.heap H locs := hw
    refine W.eq (g2 := F0 m9 15 ls []) rfl ?_
    refine lv_aload_n Ex Eb dX8_closeIfPaid_15 rfl (lv_at hl 0 rfl) ?_
    refine lv_iload_n Ex Eb dX8_closeIfPaid_16 rfl (lv_at hl 1 rfl) ?_
    refine lv_iconst (v := iI 4) Ex Eb dX8_closeIfPaid_17 rfl ?_
    refine lv_iconst (v := iI 0) Ex Eb dX8_closeIfPaid_18 rfl ?_
    refine lo_callV (q0 := 0) (rest := []) E hK hw (kX8_put l X d M (wPut w i 3 0) i 4 0 (by omega) (by omega)) (cwV 3 E.2.2.2.2 gX8_closeIfPaid_X8_put rfl rfl rfl (by decide +kernel) ⟨Nat.le_of_ble_eq_true rfl, Nat.le_of_ble_eq_true rfl⟩) rfl rfl [0, 1] rfl (by decide) hl.1 rfl rfl (Nat.le_of_ble_eq_true rfl) dX8_closeIfPaid_19 ⟨Nat.le_of_ble_eq_true rfl, Nat.le_of_ble_eq_true rfl⟩ (fun v w1 H locs hq hw => ?_)
    obtain ⟨rfl, rfl⟩ := hq
    have hw : lo_Wd X ([oX8 (d 0) (M 0) (d 1) (d 2) (M 3) (d 3) (M 5) (d 4) (d 5) (d 6) (M 9) (d 7) (M 11) (M 12) (M 13) (M 14) (M 15) (M 16) (M 17) (M 18) (M 19) (M 20) (M 21) (M 22) (M 23) (M 24) (M 25) (M 26) (M 27) (M 28), arI X (d 1) 122 (wPut (wPut w i 3 0) i 4 0)]) A9 s9.heap H locs := hw
    refine W.eq (g2 := F0 m9 22 ls []) rfl ?_
    refine lv_aload_n Ex Eb dX8_closeIfPaid_22 rfl (lv_at hl 0 rfl) ?_
    refine lv_iload_n Ex Eb dX8_closeIfPaid_23 rfl (lv_at hl 1 rfl) ?_
    refine lv_iconst (v := iI 5) Ex Eb dX8_closeIfPaid_24 rfl ?_
    refine lv_iconst (v := iI 0) Ex Eb dX8_closeIfPaid_25 rfl ?_
    refine lo_callV (q0 := 0) (rest := []) E hK hw (kX8_put l X d M (wPut (wPut w i 3 0) i 4 0) i 5 0 (by omega) (by omega)) (cwV 3 E.2.2.2.2 gX8_closeIfPaid_X8_put rfl rfl rfl (by decide +kernel) ⟨Nat.le_of_ble_eq_true rfl, Nat.le_of_ble_eq_true rfl⟩) rfl rfl [0, 1] rfl (by decide) hl.1 rfl rfl (Nat.le_of_ble_eq_true rfl) dX8_closeIfPaid_26 ⟨Nat.le_of_ble_eq_true rfl, Nat.le_of_ble_eq_true rfl⟩ (fun v w1 H locs hq hw => ?_)
    obtain ⟨rfl, rfl⟩ := hq
    have hw : lo_Wd X ([oX8 (d 0) (M 0) (d 1) (d 2) (M 3) (d 3) (M 5) (d 4) (d 5) (d 6) (M 9) (d 7) (M 11) (M 12) (M 13) (M 14) (M 15) (M 16) (M 17) (M 18) (M 19) (M 20) (M 21) (M 22) (M 23) (M 24) (M 25) (M 26) (M 27) (M 28), arI X (d 1) 122 (wPut (wPut (wPut w i 3 0) i 4 0) i 5 0)]) A9 s9.heap H locs := hw
    refine W.eq (g2 := F0 m9 29 ls []) rfl ?_
    exact lo_vret E hRt hLk hK hAe hw dX8_closeIfPaid_29 rfl ⟨rfl, by first | (rw [show wClose w i = wPut (wPut (wPut w i 3 0) i 4 0) i 5 0 from if_pos (by omega)]) | (rw [show wClose w i = w from if_neg (by omega)])⟩
set_option maxHeartbeats 4000000 in
set_option maxRecDepth 100000 in
theorem kX8_payOne (l : Launch) (X : KX) (d : Nat → Nat) (M w : Nat → Int) (i : Int) (hi : 0 ≤ i ∧ i < 6) (hLI : LI (WL w i)) (ho : 0 < wOf w i 1) (hkp : 0 ≤ w 1 ∧ w 1 ≤ 20) : CM l X yX8_payOne wsX8_payOne ({ frames := 3, cells := 0, slots := 0, locals := 66 }) [.ref (d 0), .int (iI i)] ([oX8 (d 0) (M 0) (d 1) (d 2) (M 3) (d 3) (M 5) (d 4) (d 5) (d 6) (M 9) (d 7) (M 11) (M 12) (M 13) (M 14) (M 15) (M 16) (M 17) (M 18) (M 19) (M 20) (M 21) (M 22) (M 23) (M 24) (M 25) (M 26) (M 27) (M 28), arI X (d 1) 122 w]) (fun v9 w9 => ∃ N : Nat → Int, (sameW M N) ∧ v9 = some (.int (iI (dueL (WL w i)))) ∧ w9 = [oX8 (d 0) (N 0) (d 1) (d 2) (N 3) (d 3) (N 5) (d 4) (d 5) (d 6) (N 9) (d 7) (N 11) (N 12) (N 13) (N 14) (N 15) (N 16) (N 17) (N 18) (N 19) (N 20) (N 21) (N 22) (N 23) (N 24) (N 25) (N 26) (N 27) (N 28), arI X (d 1) 122 (wPay w i)]) 0 0 := by
  refine lo_enter (cc := cX8_payOne) (maxL := 3) (ret := (some .int)) (lv := [(0, .ref (d 0)), (1, .int (iI i))]) (by decide) rfl rfl (Nat.le_of_ble_eq_true rfl) ?_
  intro p9 e9 s9 m9 bl9 me9 c9 A9 ls hAe E hRt hLk hK hl hw
  have Ex := E.1
  have Eb := E.2.1
  have huRX8 : ∀ w ∈ u_ws RX8 TX8 29, w ∈ wsX8_payOne := by decide +kernel
  have hf91 : (Cond.fieldLink RX8 91 "LoanScheduleModel" "walkDue" "J").before _ s9 = true := E.2.2.2.2 _ (List.mem_of_getElem? (i := 1) rfl)
  have hf78 : (Cond.fieldLink RX8 78 "LoanScheduleModel" "walkBalance" "J").before _ s9 = true := E.2.2.2.2 _ (List.mem_of_getElem? (i := 2) rfl)
  have hf82 : (Cond.fieldLink RX8 82 "LoanScheduleModel" "walkCarry" "J").before _ s9 = true := E.2.2.2.2 _ (List.mem_of_getElem? (i := 3) rfl)
  have hf94 : (Cond.fieldLink RX8 94 "LoanScheduleModel" "walkInterest" "J").before _ s9 = true := E.2.2.2.2 _ (List.mem_of_getElem? (i := 4) rfl)
  obtain ⟨⟨hb0, hb1⟩, ⟨hr0, hr1⟩, ⟨hc0, hc1⟩, ⟨hm0, hm1⟩, ⟨hi0, hi1⟩, ⟨hk0, hk1⟩, hop, hcl⟩ := id hLI
  change 0 ≤ wOf w i 1 at hb0
  change wOf w i 1 ≤ 9999999 at hb1
  change 0 ≤ wOf w i 2 at hr0
  change wOf w i 2 ≤ 3000 at hr1
  change 0 ≤ wOf w i 5 at hc0
  change wOf w i 5 < 120000 at hc1
  change 0 ≤ wOf w i 3 at hm0
  change wOf w i 3 ≤ 120 at hm1
  change 0 ≤ wOf w i 4 at hi0
  change wOf w i 4 ≤ 10249999 at hi1
  change 0 ≤ wOf w i 9 at hk0
  change wOf w i 9 ≤ 6 ∧ wOf w i 0 + wOf w i 6 - wOf w i 7 = wOf w i 1 at hk1
  have hpc : (dueL (WL w i) = fW (wOf w i 1) (wOf w i 2) (wOf w i 5) ∧ fW (wOf w i 1) (wOf w i 2) (wOf w i 5) ≤ wOf w i 4) ∨ (dueL (WL w i) = wOf w i 4 ∧ wOf w i 4 < fW (wOf w i 1) (wOf w i 2) (wOf w i 5) ∧ 2 ≤ wOf w i 3 ∧ fI (wOf w i 1) (wOf w i 2) (wOf w i 5) ≤ wOf w i 4) := (payL_cases hLI ho).imp id (fun h => ⟨h.1, h.2.1, h.2.2.1, h.2.2.2.1⟩)
  have hfi := fI_r hb0 hr0 hr1 hc0 hc1
  have hfw : fW (wOf w i 1) (wOf w i 2) (wOf w i 5) = wOf w i 1 + fI (wOf w i 1) (wOf w i 2) (wOf w i 5) := rfl
  have hfc := fC_r (wOf w i 1) (wOf w i 2) (wOf w i 5)
  refine lv_aload_n Ex Eb dX8_payOne_0 rfl (lv_at hl 0 rfl) ?_
  refine lv_iload_n Ex Eb dX8_payOne_1 rfl (lv_at hl 1 rfl) ?_
  refine lo_callV (q0 := 0) (rest := []) E hK hw (kX8_nextMonth l X d M w i (by omega) (by omega)) (cwV 1 E.2.2.2.2 gX8_payOne_X8_nextMonth rfl rfl rfl (by decide +kernel) ⟨Nat.le_of_ble_eq_true rfl, Nat.le_of_ble_eq_true rfl⟩) rfl rfl [0, 1] rfl (by decide) hl.1 rfl rfl (Nat.le_of_ble_eq_true rfl) dX8_payOne_2 ⟨Nat.le_of_ble_eq_true rfl, Nat.le_of_ble_eq_true rfl⟩ (fun v w1 H locs hq hw => ?_)
  obtain ⟨rfl, rfl⟩ := hq
  have hw : lo_Wd X ([oX8 (d 0) (nmM M w i 0) (d 1) (d 2) (nmM M w i 3) (d 3) (nmM M w i 5) (d 4) (d 5) (d 6) (nmM M w i 9) (d 7) (nmM M w i 11) (nmM M w i 12) (nmM M w i 13) (nmM M w i 14) (nmM M w i 15) (nmM M w i 16) (nmM M w i 17) (nmM M w i 18) (nmM M w i 19) (nmM M w i 20) (nmM M w i 21) (nmM M w i 22) (nmM M w i 23) (nmM M w i 24) (nmM M w i 25) (nmM M w i 26) (nmM M w i 27) (nmM M w i 28), arI X (d 1) 122 w]) A9 s9.heap H locs := hw
  refine W.eq (g2 := F0 m9 5 ls []) rfl ?_
  refine lv_aload_n Ex Eb dX8_payOne_5 rfl (lv_at hl 0 rfl) ?_
  refine lo_get E hK hw huRX8 15 hf91 rfl 0 rfl rfl (by decide) (v := .long (iL (nmM M w i 15))) rfl dX8_payOne_6 ?_
  refine lo_l2i E dX8_payOne_9 ?_
  refine lv_istore_n (lv' := [(2, .int (iI (nmM M w i 15))), (0, .ref (d 0)), (1, .int (iI i))]) Ex Eb dX8_payOne_10 rfl hl (by decide) rfl (fun ls hl => ?_)
  refine lv_aload_n Ex Eb dX8_payOne_11 rfl (lv_at hl 1 rfl) ?_
  refine lv_iload_n Ex Eb dX8_payOne_12 rfl (lv_at hl 2 rfl) ?_
  refine lv_iconst (v := iI 1) Ex Eb dX8_payOne_13 rfl ?_
  refine lv_aload_n Ex Eb dX8_payOne_14 rfl (lv_at hl 1 rfl) ?_
  refine lo_get E hK hw huRX8 12 hf78 rfl 0 rfl rfl (by decide) (v := .long (iL (nmM M w i 12))) rfl dX8_payOne_15 ?_
  refine lo_l2i E dX8_payOne_18 ?_
  refine lo_callV (q0 := 0) (rest := []) E hK hw (kX8_put l X d (nmM M w i) w i 1 (nmM M w i 12) (by omega) (by omega)) (cwV 3 E.2.2.2.2 gX8_payOne_X8_put rfl rfl rfl (by decide +kernel) ⟨Nat.le_of_ble_eq_true rfl, Nat.le_of_ble_eq_true rfl⟩) rfl rfl [0, 1] rfl (by decide) hl.1 rfl rfl (Nat.le_of_ble_eq_true rfl) dX8_payOne_19 ⟨Nat.le_of_ble_eq_true rfl, Nat.le_of_ble_eq_true rfl⟩ (fun v w1 H locs hq hw => ?_)
  obtain ⟨rfl, rfl⟩ := hq
  have hw : lo_Wd X ([oX8 (d 0) (nmM M w i 0) (d 1) (d 2) (nmM M w i 3) (d 3) (nmM M w i 5) (d 4) (d 5) (d 6) (nmM M w i 9) (d 7) (nmM M w i 11) (nmM M w i 12) (nmM M w i 13) (nmM M w i 14) (nmM M w i 15) (nmM M w i 16) (nmM M w i 17) (nmM M w i 18) (nmM M w i 19) (nmM M w i 20) (nmM M w i 21) (nmM M w i 22) (nmM M w i 23) (nmM M w i 24) (nmM M w i 25) (nmM M w i 26) (nmM M w i 27) (nmM M w i 28), arI X (d 1) 122 (wPut w i 1 (nmM M w i 12))]) A9 s9.heap H locs := hw
  refine W.eq (g2 := F0 m9 22 ls []) rfl ?_
  refine lv_aload_n Ex Eb dX8_payOne_22 rfl (lv_at hl 1 rfl) ?_
  refine lv_iload_n Ex Eb dX8_payOne_23 rfl (lv_at hl 2 rfl) ?_
  refine lv_iconst (v := iI 5) Ex Eb dX8_payOne_24 rfl ?_
  refine lv_aload_n Ex Eb dX8_payOne_25 rfl (lv_at hl 1 rfl) ?_
  refine lo_get E hK hw huRX8 13 hf82 rfl 0 rfl rfl (by decide) (v := .long (iL (nmM M w i 13))) rfl dX8_payOne_26 ?_
  refine lo_l2i E dX8_payOne_29 ?_
  refine lo_callV (q0 := 0) (rest := []) E hK hw (kX8_put l X d (nmM M w i) (wPut w i 1 (nmM M w i 12)) i 5 (nmM M w i 13) (by omega) (by omega)) (cwV 3 E.2.2.2.2 gX8_payOne_X8_put rfl rfl rfl (by decide +kernel) ⟨Nat.le_of_ble_eq_true rfl, Nat.le_of_ble_eq_true rfl⟩) rfl rfl [0, 1] rfl (by decide) hl.1 rfl rfl (Nat.le_of_ble_eq_true rfl) dX8_payOne_30 ⟨Nat.le_of_ble_eq_true rfl, Nat.le_of_ble_eq_true rfl⟩ (fun v w1 H locs hq hw => ?_)
  obtain ⟨rfl, rfl⟩ := hq
  have hw : lo_Wd X ([oX8 (d 0) (nmM M w i 0) (d 1) (d 2) (nmM M w i 3) (d 3) (nmM M w i 5) (d 4) (d 5) (d 6) (nmM M w i 9) (d 7) (nmM M w i 11) (nmM M w i 12) (nmM M w i 13) (nmM M w i 14) (nmM M w i 15) (nmM M w i 16) (nmM M w i 17) (nmM M w i 18) (nmM M w i 19) (nmM M w i 20) (nmM M w i 21) (nmM M w i 22) (nmM M w i 23) (nmM M w i 24) (nmM M w i 25) (nmM M w i 26) (nmM M w i 27) (nmM M w i 28), arI X (d 1) 122 (wPut (wPut w i 1 (nmM M w i 12)) i 5 (nmM M w i 13))]) A9 s9.heap H locs := hw
  refine W.eq (g2 := F0 m9 33 ls []) rfl ?_
  refine lv_aload_n Ex Eb dX8_payOne_33 rfl (lv_at hl 1 rfl) ?_
  refine lv_iload_n Ex Eb dX8_payOne_34 rfl (lv_at hl 2 rfl) ?_
  refine lv_bipush (v := iI 6) Ex Eb dX8_payOne_35 rfl ?_
  refine lv_aload_n Ex Eb dX8_payOne_37 rfl (lv_at hl 1 rfl) ?_
  refine lo_get E hK hw huRX8 14 hf94 rfl 0 rfl rfl (by decide) (v := .long (iL (nmM M w i 14))) rfl dX8_payOne_38 ?_
  refine lo_l2i E dX8_payOne_41 ?_
  refine lo_callV (q0 := 0) (rest := []) E hK hw (kX8_grow l X d (nmM M w i) (wPut (wPut w i 1 (nmM M w i 12)) i 5 (nmM M w i 13)) i 6 (nmM M w i 14) (by omega) (by omega)) (cwV 3 E.2.2.2.2 gX8_payOne_X8_grow rfl rfl rfl (by decide +kernel) ⟨Nat.le_of_ble_eq_true rfl, Nat.le_of_ble_eq_true rfl⟩) rfl rfl [0, 1] rfl (by decide) hl.1 rfl rfl (Nat.le_of_ble_eq_true rfl) dX8_payOne_42 ⟨Nat.le_of_ble_eq_true rfl, Nat.le_of_ble_eq_true rfl⟩ (fun v w1 H locs hq hw => ?_)
  obtain ⟨rfl, rfl⟩ := hq
  have hw : lo_Wd X ([oX8 (d 0) (nmM M w i 0) (d 1) (d 2) (nmM M w i 3) (d 3) (nmM M w i 5) (d 4) (d 5) (d 6) (nmM M w i 9) (d 7) (nmM M w i 11) (nmM M w i 12) (nmM M w i 13) (nmM M w i 14) (nmM M w i 15) (nmM M w i 16) (nmM M w i 17) (nmM M w i 18) (nmM M w i 19) (nmM M w i 20) (nmM M w i 21) (nmM M w i 22) (nmM M w i 23) (nmM M w i 24) (nmM M w i 25) (nmM M w i 26) (nmM M w i 27) (nmM M w i 28), arI X (d 1) 122 (wPut (wPut (wPut w i 1 (nmM M w i 12)) i 5 (nmM M w i 13)) i 6 (wOf (wPut (wPut w i 1 (nmM M w i 12)) i 5 (nmM M w i 13)) i 6 + (nmM M w i 14)))]) A9 s9.heap H locs := hw
  refine W.eq (g2 := F0 m9 45 ls []) rfl ?_
  refine lv_aload_n Ex Eb dX8_payOne_45 rfl (lv_at hl 1 rfl) ?_
  refine lv_iload_n Ex Eb dX8_payOne_46 rfl (lv_at hl 2 rfl) ?_
  refine lv_bipush (v := iI 7) Ex Eb dX8_payOne_47 rfl ?_
  refine lv_iload_n Ex Eb dX8_payOne_49 rfl (lv_at hl 0 rfl) ?_
  refine lo_callV (q0 := 0) (rest := []) E hK hw (kX8_grow l X d (nmM M w i) (wPut (wPut (wPut w i 1 (nmM M w i 12)) i 5 (nmM M w i 13)) i 6 (wOf (wPut (wPut w i 1 (nmM M w i 12)) i 5 (nmM M w i 13)) i 6 + (nmM M w i 14))) i 7 (nmM M w i 15) (by omega) (by omega)) (cwV 3 E.2.2.2.2 gX8_payOne_X8_grow rfl rfl rfl (by decide +kernel) ⟨Nat.le_of_ble_eq_true rfl, Nat.le_of_ble_eq_true rfl⟩) rfl rfl [0, 1] rfl (by decide) hl.1 rfl rfl (Nat.le_of_ble_eq_true rfl) dX8_payOne_50 ⟨Nat.le_of_ble_eq_true rfl, Nat.le_of_ble_eq_true rfl⟩ (fun v w1 H locs hq hw => ?_)
  obtain ⟨rfl, rfl⟩ := hq
  have hw : lo_Wd X ([oX8 (d 0) (nmM M w i 0) (d 1) (d 2) (nmM M w i 3) (d 3) (nmM M w i 5) (d 4) (d 5) (d 6) (nmM M w i 9) (d 7) (nmM M w i 11) (nmM M w i 12) (nmM M w i 13) (nmM M w i 14) (nmM M w i 15) (nmM M w i 16) (nmM M w i 17) (nmM M w i 18) (nmM M w i 19) (nmM M w i 20) (nmM M w i 21) (nmM M w i 22) (nmM M w i 23) (nmM M w i 24) (nmM M w i 25) (nmM M w i 26) (nmM M w i 27) (nmM M w i 28), arI X (d 1) 122 (wPut (wPut (wPut (wPut w i 1 (nmM M w i 12)) i 5 (nmM M w i 13)) i 6 (wOf (wPut (wPut w i 1 (nmM M w i 12)) i 5 (nmM M w i 13)) i 6 + (nmM M w i 14))) i 7 (wOf (wPut (wPut (wPut w i 1 (nmM M w i 12)) i 5 (nmM M w i 13)) i 6 (wOf (wPut (wPut w i 1 (nmM M w i 12)) i 5 (nmM M w i 13)) i 6 + (nmM M w i 14))) i 7 + (nmM M w i 15)))]) A9 s9.heap H locs := hw
  refine W.eq (g2 := F0 m9 53 ls []) rfl ?_
  refine lv_aload_n Ex Eb dX8_payOne_53 rfl (lv_at hl 1 rfl) ?_
  refine lv_iload_n Ex Eb dX8_payOne_54 rfl (lv_at hl 2 rfl) ?_
  refine lv_bipush (v := iI 8) Ex Eb dX8_payOne_55 rfl ?_
  refine lv_iconst (v := iI 1) Ex Eb dX8_payOne_57 rfl ?_
  refine lo_callV (q0 := 0) (rest := []) E hK hw (kX8_grow l X d (nmM M w i) (wPut (wPut (wPut (wPut w i 1 (nmM M w i 12)) i 5 (nmM M w i 13)) i 6 (wOf (wPut (wPut w i 1 (nmM M w i 12)) i 5 (nmM M w i 13)) i 6 + (nmM M w i 14))) i 7 (wOf (wPut (wPut (wPut w i 1 (nmM M w i 12)) i 5 (nmM M w i 13)) i 6 (wOf (wPut (wPut w i 1 (nmM M w i 12)) i 5 (nmM M w i 13)) i 6 + (nmM M w i 14))) i 7 + (nmM M w i 15))) i 8 1 (by omega) (by omega)) (cwV 3 E.2.2.2.2 gX8_payOne_X8_grow rfl rfl rfl (by decide +kernel) ⟨Nat.le_of_ble_eq_true rfl, Nat.le_of_ble_eq_true rfl⟩) rfl rfl [0, 1] rfl (by decide) hl.1 rfl rfl (Nat.le_of_ble_eq_true rfl) dX8_payOne_58 ⟨Nat.le_of_ble_eq_true rfl, Nat.le_of_ble_eq_true rfl⟩ (fun v w1 H locs hq hw => ?_)
  obtain ⟨rfl, rfl⟩ := hq
  have hw : lo_Wd X ([oX8 (d 0) (nmM M w i 0) (d 1) (d 2) (nmM M w i 3) (d 3) (nmM M w i 5) (d 4) (d 5) (d 6) (nmM M w i 9) (d 7) (nmM M w i 11) (nmM M w i 12) (nmM M w i 13) (nmM M w i 14) (nmM M w i 15) (nmM M w i 16) (nmM M w i 17) (nmM M w i 18) (nmM M w i 19) (nmM M w i 20) (nmM M w i 21) (nmM M w i 22) (nmM M w i 23) (nmM M w i 24) (nmM M w i 25) (nmM M w i 26) (nmM M w i 27) (nmM M w i 28), arI X (d 1) 122 (wPut (wPut (wPut (wPut (wPut w i 1 (nmM M w i 12)) i 5 (nmM M w i 13)) i 6 (wOf (wPut (wPut w i 1 (nmM M w i 12)) i 5 (nmM M w i 13)) i 6 + (nmM M w i 14))) i 7 (wOf (wPut (wPut (wPut w i 1 (nmM M w i 12)) i 5 (nmM M w i 13)) i 6 (wOf (wPut (wPut w i 1 (nmM M w i 12)) i 5 (nmM M w i 13)) i 6 + (nmM M w i 14))) i 7 + (nmM M w i 15))) i 8 (wOf (wPut (wPut (wPut (wPut w i 1 (nmM M w i 12)) i 5 (nmM M w i 13)) i 6 (wOf (wPut (wPut w i 1 (nmM M w i 12)) i 5 (nmM M w i 13)) i 6 + (nmM M w i 14))) i 7 (wOf (wPut (wPut (wPut w i 1 (nmM M w i 12)) i 5 (nmM M w i 13)) i 6 (wOf (wPut (wPut w i 1 (nmM M w i 12)) i 5 (nmM M w i 13)) i 6 + (nmM M w i 14))) i 7 + (nmM M w i 15))) i 8 + 1))]) A9 s9.heap H locs := hw
  refine W.eq (g2 := F0 m9 61 ls []) rfl ?_
  refine lv_aload_n Ex Eb dX8_payOne_61 rfl (lv_at hl 1 rfl) ?_
  refine lv_iload_n Ex Eb dX8_payOne_62 rfl (lv_at hl 2 rfl) ?_
  refine lv_iconst (v := iI 3) Ex Eb dX8_payOne_63 rfl ?_
  refine lv_iconst (v := iI (-1)) Ex Eb dX8_payOne_64 rfl ?_
  refine lo_callV (q0 := 0) (rest := []) E hK hw (kX8_grow l X d (nmM M w i) (wPut (wPut (wPut (wPut (wPut w i 1 (nmM M w i 12)) i 5 (nmM M w i 13)) i 6 (wOf (wPut (wPut w i 1 (nmM M w i 12)) i 5 (nmM M w i 13)) i 6 + (nmM M w i 14))) i 7 (wOf (wPut (wPut (wPut w i 1 (nmM M w i 12)) i 5 (nmM M w i 13)) i 6 (wOf (wPut (wPut w i 1 (nmM M w i 12)) i 5 (nmM M w i 13)) i 6 + (nmM M w i 14))) i 7 + (nmM M w i 15))) i 8 (wOf (wPut (wPut (wPut (wPut w i 1 (nmM M w i 12)) i 5 (nmM M w i 13)) i 6 (wOf (wPut (wPut w i 1 (nmM M w i 12)) i 5 (nmM M w i 13)) i 6 + (nmM M w i 14))) i 7 (wOf (wPut (wPut (wPut w i 1 (nmM M w i 12)) i 5 (nmM M w i 13)) i 6 (wOf (wPut (wPut w i 1 (nmM M w i 12)) i 5 (nmM M w i 13)) i 6 + (nmM M w i 14))) i 7 + (nmM M w i 15))) i 8 + 1)) i 3 (-1) (by omega) (by omega)) (cwV 3 E.2.2.2.2 gX8_payOne_X8_grow rfl rfl rfl (by decide +kernel) ⟨Nat.le_of_ble_eq_true rfl, Nat.le_of_ble_eq_true rfl⟩) rfl rfl [0, 1] rfl (by decide) hl.1 rfl rfl (Nat.le_of_ble_eq_true rfl) dX8_payOne_65 ⟨Nat.le_of_ble_eq_true rfl, Nat.le_of_ble_eq_true rfl⟩ (fun v w1 H locs hq hw => ?_)
  obtain ⟨rfl, rfl⟩ := hq
  have hw : lo_Wd X ([oX8 (d 0) (nmM M w i 0) (d 1) (d 2) (nmM M w i 3) (d 3) (nmM M w i 5) (d 4) (d 5) (d 6) (nmM M w i 9) (d 7) (nmM M w i 11) (nmM M w i 12) (nmM M w i 13) (nmM M w i 14) (nmM M w i 15) (nmM M w i 16) (nmM M w i 17) (nmM M w i 18) (nmM M w i 19) (nmM M w i 20) (nmM M w i 21) (nmM M w i 22) (nmM M w i 23) (nmM M w i 24) (nmM M w i 25) (nmM M w i 26) (nmM M w i 27) (nmM M w i 28), arI X (d 1) 122 (wPut (wPut (wPut (wPut (wPut (wPut w i 1 (nmM M w i 12)) i 5 (nmM M w i 13)) i 6 (wOf (wPut (wPut w i 1 (nmM M w i 12)) i 5 (nmM M w i 13)) i 6 + (nmM M w i 14))) i 7 (wOf (wPut (wPut (wPut w i 1 (nmM M w i 12)) i 5 (nmM M w i 13)) i 6 (wOf (wPut (wPut w i 1 (nmM M w i 12)) i 5 (nmM M w i 13)) i 6 + (nmM M w i 14))) i 7 + (nmM M w i 15))) i 8 (wOf (wPut (wPut (wPut (wPut w i 1 (nmM M w i 12)) i 5 (nmM M w i 13)) i 6 (wOf (wPut (wPut w i 1 (nmM M w i 12)) i 5 (nmM M w i 13)) i 6 + (nmM M w i 14))) i 7 (wOf (wPut (wPut (wPut w i 1 (nmM M w i 12)) i 5 (nmM M w i 13)) i 6 (wOf (wPut (wPut w i 1 (nmM M w i 12)) i 5 (nmM M w i 13)) i 6 + (nmM M w i 14))) i 7 + (nmM M w i 15))) i 8 + 1)) i 3 (wOf (wPut (wPut (wPut (wPut (wPut w i 1 (nmM M w i 12)) i 5 (nmM M w i 13)) i 6 (wOf (wPut (wPut w i 1 (nmM M w i 12)) i 5 (nmM M w i 13)) i 6 + (nmM M w i 14))) i 7 (wOf (wPut (wPut (wPut w i 1 (nmM M w i 12)) i 5 (nmM M w i 13)) i 6 (wOf (wPut (wPut w i 1 (nmM M w i 12)) i 5 (nmM M w i 13)) i 6 + (nmM M w i 14))) i 7 + (nmM M w i 15))) i 8 (wOf (wPut (wPut (wPut (wPut w i 1 (nmM M w i 12)) i 5 (nmM M w i 13)) i 6 (wOf (wPut (wPut w i 1 (nmM M w i 12)) i 5 (nmM M w i 13)) i 6 + (nmM M w i 14))) i 7 (wOf (wPut (wPut (wPut w i 1 (nmM M w i 12)) i 5 (nmM M w i 13)) i 6 (wOf (wPut (wPut w i 1 (nmM M w i 12)) i 5 (nmM M w i 13)) i 6 + (nmM M w i 14))) i 7 + (nmM M w i 15))) i 8 + 1)) i 3 + -1))]) A9 s9.heap H locs := hw
  refine W.eq (g2 := F0 m9 68 ls []) rfl ?_
  refine lv_aload_n Ex Eb dX8_payOne_68 rfl (lv_at hl 1 rfl) ?_
  refine lv_iload_n Ex Eb dX8_payOne_69 rfl (lv_at hl 2 rfl) ?_
  refine lv_iload_n Ex Eb dX8_payOne_70 rfl (lv_at hl 0 rfl) ?_
  refine lv_aload_n Ex Eb dX8_payOne_71 rfl (lv_at hl 1 rfl) ?_
  refine lo_get E hK hw huRX8 14 hf94 rfl 0 rfl rfl (by decide) (v := .long (iL (nmM M w i 14))) rfl dX8_payOne_72 ?_
  refine lo_l2i E dX8_payOne_75 ?_
  refine lo_callV (q0 := 0) (rest := []) E hK hw (kX8_book l X d (nmM M w i) (wPut (wPut (wPut (wPut (wPut (wPut w i 1 (nmM M w i 12)) i 5 (nmM M w i 13)) i 6 (wOf (wPut (wPut w i 1 (nmM M w i 12)) i 5 (nmM M w i 13)) i 6 + (nmM M w i 14))) i 7 (wOf (wPut (wPut (wPut w i 1 (nmM M w i 12)) i 5 (nmM M w i 13)) i 6 (wOf (wPut (wPut w i 1 (nmM M w i 12)) i 5 (nmM M w i 13)) i 6 + (nmM M w i 14))) i 7 + (nmM M w i 15))) i 8 (wOf (wPut (wPut (wPut (wPut w i 1 (nmM M w i 12)) i 5 (nmM M w i 13)) i 6 (wOf (wPut (wPut w i 1 (nmM M w i 12)) i 5 (nmM M w i 13)) i 6 + (nmM M w i 14))) i 7 (wOf (wPut (wPut (wPut w i 1 (nmM M w i 12)) i 5 (nmM M w i 13)) i 6 (wOf (wPut (wPut w i 1 (nmM M w i 12)) i 5 (nmM M w i 13)) i 6 + (nmM M w i 14))) i 7 + (nmM M w i 15))) i 8 + 1)) i 3 (wOf (wPut (wPut (wPut (wPut (wPut w i 1 (nmM M w i 12)) i 5 (nmM M w i 13)) i 6 (wOf (wPut (wPut w i 1 (nmM M w i 12)) i 5 (nmM M w i 13)) i 6 + (nmM M w i 14))) i 7 (wOf (wPut (wPut (wPut w i 1 (nmM M w i 12)) i 5 (nmM M w i 13)) i 6 (wOf (wPut (wPut w i 1 (nmM M w i 12)) i 5 (nmM M w i 13)) i 6 + (nmM M w i 14))) i 7 + (nmM M w i 15))) i 8 (wOf (wPut (wPut (wPut (wPut w i 1 (nmM M w i 12)) i 5 (nmM M w i 13)) i 6 (wOf (wPut (wPut w i 1 (nmM M w i 12)) i 5 (nmM M w i 13)) i 6 + (nmM M w i 14))) i 7 (wOf (wPut (wPut (wPut w i 1 (nmM M w i 12)) i 5 (nmM M w i 13)) i 6 (wOf (wPut (wPut w i 1 (nmM M w i 12)) i 5 (nmM M w i 13)) i 6 + (nmM M w i 14))) i 7 + (nmM M w i 15))) i 8 + 1)) i 3 + -1)) i (nmM M w i 15) (nmM M w i 14) (by (repeat rw [wPut_lo hi.1 (by omega) (by omega)]); exact hkp)) (cwV 3 E.2.2.2.2 gX8_payOne_X8_book rfl rfl rfl (by decide +kernel) ⟨Nat.le_of_ble_eq_true rfl, Nat.le_of_ble_eq_true rfl⟩) rfl rfl [0, 1] rfl (by decide) hl.1 rfl rfl (Nat.le_of_ble_eq_true rfl) dX8_payOne_76 ⟨Nat.le_of_ble_eq_true rfl, Nat.le_of_ble_eq_true rfl⟩ (fun v w1 H locs hq hw => ?_)
  obtain ⟨rfl, rfl⟩ := hq
  have hw : lo_Wd X ([oX8 (d 0) (nmM M w i 0) (d 1) (d 2) (nmM M w i 3) (d 3) (nmM M w i 5) (d 4) (d 5) (d 6) (nmM M w i 9) (d 7) (nmM M w i 11) (nmM M w i 12) (nmM M w i 13) (nmM M w i 14) (nmM M w i 15) (nmM M w i 16) (nmM M w i 17) (nmM M w i 18) (nmM M w i 19) (nmM M w i 20) (nmM M w i 21) (nmM M w i 22) (nmM M w i 23) (nmM M w i 24) (nmM M w i 25) (nmM M w i 26) (nmM M w i 27) (nmM M w i 28), arI X (d 1) 122 (wBook (wPut (wPut (wPut (wPut (wPut (wPut w i 1 (nmM M w i 12)) i 5 (nmM M w i 13)) i 6 (wOf (wPut (wPut w i 1 (nmM M w i 12)) i 5 (nmM M w i 13)) i 6 + (nmM M w i 14))) i 7 (wOf (wPut (wPut (wPut w i 1 (nmM M w i 12)) i 5 (nmM M w i 13)) i 6 (wOf (wPut (wPut w i 1 (nmM M w i 12)) i 5 (nmM M w i 13)) i 6 + (nmM M w i 14))) i 7 + (nmM M w i 15))) i 8 (wOf (wPut (wPut (wPut (wPut w i 1 (nmM M w i 12)) i 5 (nmM M w i 13)) i 6 (wOf (wPut (wPut w i 1 (nmM M w i 12)) i 5 (nmM M w i 13)) i 6 + (nmM M w i 14))) i 7 (wOf (wPut (wPut (wPut w i 1 (nmM M w i 12)) i 5 (nmM M w i 13)) i 6 (wOf (wPut (wPut w i 1 (nmM M w i 12)) i 5 (nmM M w i 13)) i 6 + (nmM M w i 14))) i 7 + (nmM M w i 15))) i 8 + 1)) i 3 (wOf (wPut (wPut (wPut (wPut (wPut w i 1 (nmM M w i 12)) i 5 (nmM M w i 13)) i 6 (wOf (wPut (wPut w i 1 (nmM M w i 12)) i 5 (nmM M w i 13)) i 6 + (nmM M w i 14))) i 7 (wOf (wPut (wPut (wPut w i 1 (nmM M w i 12)) i 5 (nmM M w i 13)) i 6 (wOf (wPut (wPut w i 1 (nmM M w i 12)) i 5 (nmM M w i 13)) i 6 + (nmM M w i 14))) i 7 + (nmM M w i 15))) i 8 (wOf (wPut (wPut (wPut (wPut w i 1 (nmM M w i 12)) i 5 (nmM M w i 13)) i 6 (wOf (wPut (wPut w i 1 (nmM M w i 12)) i 5 (nmM M w i 13)) i 6 + (nmM M w i 14))) i 7 (wOf (wPut (wPut (wPut w i 1 (nmM M w i 12)) i 5 (nmM M w i 13)) i 6 (wOf (wPut (wPut w i 1 (nmM M w i 12)) i 5 (nmM M w i 13)) i 6 + (nmM M w i 14))) i 7 + (nmM M w i 15))) i 8 + 1)) i 3 + -1)) i (nmM M w i 15) (nmM M w i 14))]) A9 s9.heap H locs := hw
  refine W.eq (g2 := F0 m9 79 ls []) rfl ?_
  refine lv_aload_n Ex Eb dX8_payOne_79 rfl (lv_at hl 1 rfl) ?_
  refine lv_iload_n Ex Eb dX8_payOne_80 rfl (lv_at hl 2 rfl) ?_
  refine lo_callV (q0 := 0) (rest := []) E hK hw (kX8_closeIfPaid l X d (nmM M w i) (wBook (wPut (wPut (wPut (wPut (wPut (wPut w i 1 (nmM M w i 12)) i 5 (nmM M w i 13)) i 6 (wOf (wPut (wPut w i 1 (nmM M w i 12)) i 5 (nmM M w i 13)) i 6 + (nmM M w i 14))) i 7 (wOf (wPut (wPut (wPut w i 1 (nmM M w i 12)) i 5 (nmM M w i 13)) i 6 (wOf (wPut (wPut w i 1 (nmM M w i 12)) i 5 (nmM M w i 13)) i 6 + (nmM M w i 14))) i 7 + (nmM M w i 15))) i 8 (wOf (wPut (wPut (wPut (wPut w i 1 (nmM M w i 12)) i 5 (nmM M w i 13)) i 6 (wOf (wPut (wPut w i 1 (nmM M w i 12)) i 5 (nmM M w i 13)) i 6 + (nmM M w i 14))) i 7 (wOf (wPut (wPut (wPut w i 1 (nmM M w i 12)) i 5 (nmM M w i 13)) i 6 (wOf (wPut (wPut w i 1 (nmM M w i 12)) i 5 (nmM M w i 13)) i 6 + (nmM M w i 14))) i 7 + (nmM M w i 15))) i 8 + 1)) i 3 (wOf (wPut (wPut (wPut (wPut (wPut w i 1 (nmM M w i 12)) i 5 (nmM M w i 13)) i 6 (wOf (wPut (wPut w i 1 (nmM M w i 12)) i 5 (nmM M w i 13)) i 6 + (nmM M w i 14))) i 7 (wOf (wPut (wPut (wPut w i 1 (nmM M w i 12)) i 5 (nmM M w i 13)) i 6 (wOf (wPut (wPut w i 1 (nmM M w i 12)) i 5 (nmM M w i 13)) i 6 + (nmM M w i 14))) i 7 + (nmM M w i 15))) i 8 (wOf (wPut (wPut (wPut (wPut w i 1 (nmM M w i 12)) i 5 (nmM M w i 13)) i 6 (wOf (wPut (wPut w i 1 (nmM M w i 12)) i 5 (nmM M w i 13)) i 6 + (nmM M w i 14))) i 7 (wOf (wPut (wPut (wPut w i 1 (nmM M w i 12)) i 5 (nmM M w i 13)) i 6 (wOf (wPut (wPut w i 1 (nmM M w i 12)) i 5 (nmM M w i 13)) i 6 + (nmM M w i 14))) i 7 + (nmM M w i 15))) i 8 + 1)) i 3 + -1)) i (nmM M w i 15) (nmM M w i 14)) i (hi) (by rw [wOf_b hi.1 (by omega)]; (repeat rw [wOf_n hi.1 (by omega) (by omega) hi.1 (by omega) (by omega) (Or.inr (by omega))]); rw [wOf_s]; show i32 (fW (wOf w i 1) (wOf w i 2) (wOf w i 5) - dueL (WL w i)); omega)) (cwV 1 E.2.2.2.2 gX8_payOne_X8_closeIfPaid rfl rfl rfl (by decide +kernel) ⟨Nat.le_of_ble_eq_true rfl, Nat.le_of_ble_eq_true rfl⟩) rfl rfl [0, 1] rfl (by decide) hl.1 rfl rfl (Nat.le_of_ble_eq_true rfl) dX8_payOne_81 ⟨Nat.le_of_ble_eq_true rfl, Nat.le_of_ble_eq_true rfl⟩ (fun v w1 H locs hq hw => ?_)
  obtain ⟨rfl, rfl⟩ := hq
  have hw : lo_Wd X ([oX8 (d 0) (nmM M w i 0) (d 1) (d 2) (nmM M w i 3) (d 3) (nmM M w i 5) (d 4) (d 5) (d 6) (nmM M w i 9) (d 7) (nmM M w i 11) (nmM M w i 12) (nmM M w i 13) (nmM M w i 14) (nmM M w i 15) (nmM M w i 16) (nmM M w i 17) (nmM M w i 18) (nmM M w i 19) (nmM M w i 20) (nmM M w i 21) (nmM M w i 22) (nmM M w i 23) (nmM M w i 24) (nmM M w i 25) (nmM M w i 26) (nmM M w i 27) (nmM M w i 28), arI X (d 1) 122 (wClose (wBook (wPut (wPut (wPut (wPut (wPut (wPut w i 1 (nmM M w i 12)) i 5 (nmM M w i 13)) i 6 (wOf (wPut (wPut w i 1 (nmM M w i 12)) i 5 (nmM M w i 13)) i 6 + (nmM M w i 14))) i 7 (wOf (wPut (wPut (wPut w i 1 (nmM M w i 12)) i 5 (nmM M w i 13)) i 6 (wOf (wPut (wPut w i 1 (nmM M w i 12)) i 5 (nmM M w i 13)) i 6 + (nmM M w i 14))) i 7 + (nmM M w i 15))) i 8 (wOf (wPut (wPut (wPut (wPut w i 1 (nmM M w i 12)) i 5 (nmM M w i 13)) i 6 (wOf (wPut (wPut w i 1 (nmM M w i 12)) i 5 (nmM M w i 13)) i 6 + (nmM M w i 14))) i 7 (wOf (wPut (wPut (wPut w i 1 (nmM M w i 12)) i 5 (nmM M w i 13)) i 6 (wOf (wPut (wPut w i 1 (nmM M w i 12)) i 5 (nmM M w i 13)) i 6 + (nmM M w i 14))) i 7 + (nmM M w i 15))) i 8 + 1)) i 3 (wOf (wPut (wPut (wPut (wPut (wPut w i 1 (nmM M w i 12)) i 5 (nmM M w i 13)) i 6 (wOf (wPut (wPut w i 1 (nmM M w i 12)) i 5 (nmM M w i 13)) i 6 + (nmM M w i 14))) i 7 (wOf (wPut (wPut (wPut w i 1 (nmM M w i 12)) i 5 (nmM M w i 13)) i 6 (wOf (wPut (wPut w i 1 (nmM M w i 12)) i 5 (nmM M w i 13)) i 6 + (nmM M w i 14))) i 7 + (nmM M w i 15))) i 8 (wOf (wPut (wPut (wPut (wPut w i 1 (nmM M w i 12)) i 5 (nmM M w i 13)) i 6 (wOf (wPut (wPut w i 1 (nmM M w i 12)) i 5 (nmM M w i 13)) i 6 + (nmM M w i 14))) i 7 (wOf (wPut (wPut (wPut w i 1 (nmM M w i 12)) i 5 (nmM M w i 13)) i 6 (wOf (wPut (wPut w i 1 (nmM M w i 12)) i 5 (nmM M w i 13)) i 6 + (nmM M w i 14))) i 7 + (nmM M w i 15))) i 8 + 1)) i 3 + -1)) i (nmM M w i 15) (nmM M w i 14)) i)]) A9 s9.heap H locs := hw
  refine W.eq (g2 := F0 m9 84 ls []) rfl ?_
  refine lv_iload_n Ex Eb dX8_payOne_84 rfl (lv_at hl 0 rfl) ?_
  exact lo_iret E hRt hLk hK hAe hw dX8_payOne_85 rfl ⟨nmM M w i, ((bgM_same _ _ _).tr (stM_same _ _ _ _)), rfl, rfl⟩

