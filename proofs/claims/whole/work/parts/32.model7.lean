set_option maxHeartbeats 4000000 in
set_option maxRecDepth 100000 in
theorem kX8_balanceAfter (l : Launch) (X : KX) (d : Nat → Nat) (M w : Nat → Int) (i a : Int) (hWI : WI w) (hi : i32 i) (ha : i32 a) : CM l X yX8_balanceAfter wsX8_balanceAfter ({ frames := 2, cells := 0, slots := 0, locals := 45 }) [.ref (d 0), .int (iI i), .int (iI a)] ([oX8 (d 0) (M 0) (d 1) (d 2) (M 3) (d 3) (M 5) (d 4) (d 5) (d 6) (M 9) (d 7) (M 11) (M 12) (M 13) (M 14) (M 15) (M 16) (M 17) (M 18) (M 19) (M 20) (M 21) (M 22) (M 23) (M 24) (M 25) (M 26) (M 27) (M 28), arI X (d 1) 122 w]) (fun v9 w9 => ∃ N : Nat → Int, ∃ r : Int, (sameP M N) ∧ ((N 0 = 0 ∧ (0 ≤ i ∧ i < w 0) ∧ (0 ≤ a ∧ a ≤ 120) ∧ r = runL a.toNat (WL w i) 1) ∨ (N 0 = 1 ∧ ¬ (0 ≤ i ∧ i < w 0)) ∨ (N 0 = 2 ∧ (0 ≤ i ∧ i < w 0) ∧ ¬ (0 ≤ a ∧ a ≤ 120))) ∧ v9 = some (.int (iI r)) ∧ w9 = [oX8 (d 0) (N 0) (d 1) (d 2) (N 3) (d 3) (N 5) (d 4) (d 5) (d 6) (N 9) (d 7) (N 11) (N 12) (N 13) (N 14) (N 15) (N 16) (N 17) (N 18) (N 19) (N 20) (N 21) (N 22) (N 23) (N 24) (N 25) (N 26) (N 27) (N 28), arI X (d 1) 122 w]) 0 0 := by
  refine lo_enter (cc := cX8_balanceAfter) (maxL := 5) (ret := (some .int)) (lv := [(0, .ref (d 0)), (1, .int (iI i)), (2, .int (iI a))]) (by decide) rfl rfl (Nat.le_of_ble_eq_true rfl) ?_
  intro p9 e9 s9 m9 bl9 me9 c9 A9 ls hAe E hRt hLk hK hl hw
  have Ex := E.1
  have Eb := E.2.1
  have huRX8 : ∀ w ∈ u_ws RX8 TX8 29, w ∈ wsX8_balanceAfter := by decide +kernel
  have hf56 : (Cond.fieldLink RX8 56 "LoanScheduleModel" "thrown" "I").before _ s9 = true := E.2.2.2.2 _ (List.mem_of_getElem? (i := 1) rfl)
  have hf78 : (Cond.fieldLink RX8 78 "LoanScheduleModel" "walkBalance" "J").before _ s9 = true := E.2.2.2.2 _ (List.mem_of_getElem? (i := 2) rfl)
  obtain ⟨⟨hn0, hn1⟩, ⟨hb0, hb1⟩, hL⟩ := id hWI
  refine lv_aload_n Ex Eb dX8_balanceAfter_0 rfl (lv_at hl 0 rfl) ?_
  refine lv_iconst (v := iI 0) Ex Eb dX8_balanceAfter_1 rfl ?_
  refine lo_put E hK hw huRX8 tyX8 tyX8_ok nmX8 0 hf56 rfl 0 rfl rfl (by decide) rfl rfl rfl rfl (Nat.le_of_ble_eq_true rfl) (ws' := [oX8 (d 0) 0 (d 1) (d 2) (M 3) (d 3) (M 5) (d 4) (d 5) (d 6) (M 9) (d 7) (M 11) (M 12) (M 13) (M 14) (M 15) (M 16) (M 17) (M 18) (M 19) (M 20) (M 21) (M 22) (M 23) (M 24) (M 25) (M 26) (M 27) (M 28), arI X (d 1) 122 w]) rfl dX8_balanceAfter_2 (fun H locs hw => ?_)
  refine lv_aload_n Ex Eb dX8_balanceAfter_5 rfl (lv_at hl 0 rfl) ?_
  refine lv_iload_n Ex Eb dX8_balanceAfter_6 rfl (lv_at hl 1 rfl) ?_
  refine lo_callV (q0 := 0) (rest := []) E hK hw (kX8_noLoan l X d (uI M 0 0) w i (hWI) (by omega)) (cwV 1 E.2.2.2.2 gX8_balanceAfter_X8_noLoan rfl rfl rfl (by decide +kernel) ⟨Nat.le_of_ble_eq_true rfl, Nat.le_of_ble_eq_true rfl⟩) rfl rfl [0, 1] rfl (by decide) hl.1 rfl rfl (Nat.le_of_ble_eq_true rfl) dX8_balanceAfter_7 ⟨Nat.le_of_ble_eq_true rfl, Nat.le_of_ble_eq_true rfl⟩ (fun v w1 H locs hq hw => ?_)
  obtain ⟨z1, t2, q7_0, rfl, rfl⟩ := hq
  change (z1 = 0 ∧ t2 = 0 ∧ 0 ≤ i ∧ i < w 0) ∨ (z1 = 1 ∧ t2 = 1 ∧ ¬ (0 ≤ i ∧ i < w 0)) at q7_0
  have hw : lo_Wd X ([oX8 (d 0) t2 (d 1) (d 2) (M 3) (d 3) (M 5) (d 4) (d 5) (d 6) (M 9) (d 7) (M 11) (M 12) (M 13) (M 14) (M 15) (M 16) (M 17) (M 18) (M 19) (M 20) (M 21) (M 22) (M 23) (M 24) (M 25) (M 26) (M 27) (M 28), arI X (d 1) 122 w]) A9 s9.heap H locs := hw
  refine W.eq (g2 := F0 m9 10 ls [.int (iI z1)]) rfl ?_
  refine lo_if_ne (tgt := 25) E dX8_balanceAfter_10 (by decide) (by omega) (fun c3 => ?_) (fun c3 => ?_)
  · skip
    refine lv_iconst (v := iI 0) Ex Eb dX8_balanceAfter_25 rfl ?_
    exact lo_iret E hRt hLk hK hAe hw dX8_balanceAfter_26 rfl ⟨uI M 0 t2, 0, (by first | exact sameP_t | exact iv42_0.1), (by first | (refine Or.inl ⟨iv42_0.2, by omega, by omega, ?_⟩; first | (rw [show a = ix by omega]; exact hs1) | (rw [runL_st (show runL ix.toNat (WL w i) 1 ≤ 0 by omega) (show ix.toNat ≤ a.toNat by omega)]; exact hs1)) | (simp only [uI_s, and_true]; omega)), rfl, rfl⟩
  · skip
    refine lv_aload_n Ex Eb dX8_balanceAfter_13 rfl (lv_at hl 0 rfl) ?_
    refine lv_iload_n Ex Eb dX8_balanceAfter_14 rfl (lv_at hl 2 rfl) ?_
    refine lv_iconst (v := iI 0) Ex Eb dX8_balanceAfter_15 rfl ?_
    refine lv_bipush (v := iI 120) Ex Eb dX8_balanceAfter_16 rfl ?_
    refine lv_iconst (v := iI 2) Ex Eb dX8_balanceAfter_18 rfl ?_
    refine lo_callV (q0 := 0) (rest := []) E hK hw (kX8_outside l X d (uI M 0 t2) a 0 120 2 (by omega) (by omega) (by omega)) (cwV 4 E.2.2.2.2 gX8_balanceAfter_X8_outside rfl rfl rfl (by decide +kernel) ⟨Nat.le_of_ble_eq_true rfl, Nat.le_of_ble_eq_true rfl⟩) rfl rfl [0] rfl (by decide) hl.1 rfl rfl (Nat.le_of_ble_eq_true rfl) dX8_balanceAfter_19 ⟨Nat.le_of_ble_eq_true rfl, Nat.le_of_ble_eq_true rfl⟩ (fun v w1 H locs hq hw => ?_)
    obtain ⟨z4, t5, q19_0, rfl, rfl⟩ := hq
    change (z4 = 0 ∧ t5 = t2 ∧ 0 ≤ a ∧ a ≤ 120) ∨ (z4 = 1 ∧ t5 = 2 ∧ ¬ (0 ≤ a ∧ a ≤ 120)) at q19_0
    have hw : lo_Wd X ([oX8 (d 0) t5 (d 1) (d 2) (M 3) (d 3) (M 5) (d 4) (d 5) (d 6) (M 9) (d 7) (M 11) (M 12) (M 13) (M 14) (M 15) (M 16) (M 17) (M 18) (M 19) (M 20) (M 21) (M 22) (M 23) (M 24) (M 25) (M 26) (M 27) (M 28), arI X (d 1) 122 w]) A9 s9.heap H locs := hw
    refine W.eq (g2 := F0 m9 22 ls [.int (iI z4)]) rfl ?_
    refine lo_if_eq (tgt := 27) E dX8_balanceAfter_22 (by decide) (by omega) (fun c6 => ?_) (fun c6 => ?_)
    · skip
      have hLi := hL i (by omega) (by omega)
      have hW1 := WI_1 hWI (i := i) (by omega) (by omega)
      have hc5 : 0 ≤ wOf w i 5 ∧ wOf w i 5 < 120000 := hLi.2.2.1
      have hi4 : 0 ≤ wOf w i 4 ∧ wOf w i 4 ≤ 10249999 := hLi.2.2.2.2.1
      refine lv_aload_n Ex Eb dX8_balanceAfter_27 rfl (lv_at hl 0 rfl) ?_
      refine lv_iload_n Ex Eb dX8_balanceAfter_28 rfl (lv_at hl 1 rfl) ?_
      refine lo_callV (q0 := 0) (rest := []) E hK hw (kX8_beginWith l X d (uI M 0 t5) w i (by omega) (by omega) (by omega)) (cwV 1 E.2.2.2.2 gX8_balanceAfter_X8_beginWith rfl rfl rfl (by decide +kernel) ⟨Nat.le_of_ble_eq_true rfl, Nat.le_of_ble_eq_true rfl⟩) rfl rfl [0, 1] rfl (by decide) hl.1 rfl rfl (Nat.le_of_ble_eq_true rfl) dX8_balanceAfter_29 ⟨Nat.le_of_ble_eq_true rfl, Nat.le_of_ble_eq_true rfl⟩ (fun v w1 H locs hq hw => ?_)
      obtain ⟨rfl, rfl⟩ := hq
      have hw : lo_Wd X ([oX8 (d 0) (bgM (uI M 0 t5) (wOf w i 1) (wOf w i 5) 0) (d 1) (d 2) (bgM (uI M 0 t5) (wOf w i 1) (wOf w i 5) 3) (d 3) (bgM (uI M 0 t5) (wOf w i 1) (wOf w i 5) 5) (d 4) (d 5) (d 6) (bgM (uI M 0 t5) (wOf w i 1) (wOf w i 5) 9) (d 7) (bgM (uI M 0 t5) (wOf w i 1) (wOf w i 5) 11) (bgM (uI M 0 t5) (wOf w i 1) (wOf w i 5) 12) (bgM (uI M 0 t5) (wOf w i 1) (wOf w i 5) 13) (bgM (uI M 0 t5) (wOf w i 1) (wOf w i 5) 14) (bgM (uI M 0 t5) (wOf w i 1) (wOf w i 5) 15) (bgM (uI M 0 t5) (wOf w i 1) (wOf w i 5) 16) (bgM (uI M 0 t5) (wOf w i 1) (wOf w i 5) 17) (bgM (uI M 0 t5) (wOf w i 1) (wOf w i 5) 18) (bgM (uI M 0 t5) (wOf w i 1) (wOf w i 5) 19) (bgM (uI M 0 t5) (wOf w i 1) (wOf w i 5) 20) (bgM (uI M 0 t5) (wOf w i 1) (wOf w i 5) 21) (bgM (uI M 0 t5) (wOf w i 1) (wOf w i 5) 22) (bgM (uI M 0 t5) (wOf w i 1) (wOf w i 5) 23) (bgM (uI M 0 t5) (wOf w i 1) (wOf w i 5) 24) (bgM (uI M 0 t5) (wOf w i 1) (wOf w i 5) 25) (bgM (uI M 0 t5) (wOf w i 1) (wOf w i 5) 26) (bgM (uI M 0 t5) (wOf w i 1) (wOf w i 5) 27) (bgM (uI M 0 t5) (wOf w i 1) (wOf w i 5) 28), arI X (d 1) 122 w]) A9 s9.heap H locs := hw
      refine W.eq (g2 := F0 m9 32 ls []) rfl ?_
      refine lv_aload_n Ex Eb dX8_balanceAfter_32 rfl (lv_at hl 0 rfl) ?_
      refine lv_iload_n Ex Eb dX8_balanceAfter_33 rfl (lv_at hl 1 rfl) ?_
      refine lv_iconst (v := iI 3) Ex Eb dX8_balanceAfter_34 rfl ?_
      refine lo_callV (q0 := 0) (rest := []) E hK hw (kX8_of l X d (bgM (uI M 0 t5) (wOf w i 1) (wOf w i 5)) w i 3 (by omega) (by omega)) (cwV 2 E.2.2.2.2 gX8_balanceAfter_X8_of rfl rfl rfl (by decide +kernel) ⟨Nat.le_of_ble_eq_true rfl, Nat.le_of_ble_eq_true rfl⟩) rfl rfl [0, 1] rfl (by decide) hl.1 rfl rfl (Nat.le_of_ble_eq_true rfl) dX8_balanceAfter_35 ⟨Nat.le_of_ble_eq_true rfl, Nat.le_of_ble_eq_true rfl⟩ (fun v w1 H locs hq hw => ?_)
      obtain ⟨rfl, rfl⟩ := hq
      have hw : lo_Wd X ([oX8 (d 0) (bgM (uI M 0 t5) (wOf w i 1) (wOf w i 5) 0) (d 1) (d 2) (bgM (uI M 0 t5) (wOf w i 1) (wOf w i 5) 3) (d 3) (bgM (uI M 0 t5) (wOf w i 1) (wOf w i 5) 5) (d 4) (d 5) (d 6) (bgM (uI M 0 t5) (wOf w i 1) (wOf w i 5) 9) (d 7) (bgM (uI M 0 t5) (wOf w i 1) (wOf w i 5) 11) (bgM (uI M 0 t5) (wOf w i 1) (wOf w i 5) 12) (bgM (uI M 0 t5) (wOf w i 1) (wOf w i 5) 13) (bgM (uI M 0 t5) (wOf w i 1) (wOf w i 5) 14) (bgM (uI M 0 t5) (wOf w i 1) (wOf w i 5) 15) (bgM (uI M 0 t5) (wOf w i 1) (wOf w i 5) 16) (bgM (uI M 0 t5) (wOf w i 1) (wOf w i 5) 17) (bgM (uI M 0 t5) (wOf w i 1) (wOf w i 5) 18) (bgM (uI M 0 t5) (wOf w i 1) (wOf w i 5) 19) (bgM (uI M 0 t5) (wOf w i 1) (wOf w i 5) 20) (bgM (uI M 0 t5) (wOf w i 1) (wOf w i 5) 21) (bgM (uI M 0 t5) (wOf w i 1) (wOf w i 5) 22) (bgM (uI M 0 t5) (wOf w i 1) (wOf w i 5) 23) (bgM (uI M 0 t5) (wOf w i 1) (wOf w i 5) 24) (bgM (uI M 0 t5) (wOf w i 1) (wOf w i 5) 25) (bgM (uI M 0 t5) (wOf w i 1) (wOf w i 5) 26) (bgM (uI M 0 t5) (wOf w i 1) (wOf w i 5) 27) (bgM (uI M 0 t5) (wOf w i 1) (wOf w i 5) 28), arI X (d 1) 122 w]) A9 s9.heap H locs := hw
      refine W.eq (g2 := F0 m9 38 ls [.int (iI (wOf w i 3))]) rfl ?_
      refine lv_istore_n (lv' := [(3, .int (iI (wOf w i 3))), (0, .ref (d 0)), (1, .int (iI i)), (2, .int (iI a))]) Ex Eb dX8_balanceAfter_38 rfl hl (by decide) rfl (fun ls hl => ?_)
      refine lv_iconst (v := iI 0) Ex Eb dX8_balanceAfter_39 rfl ?_
      refine lv_istore (lv' := [(4, .int (iI 0)), (3, .int (iI (wOf w i 3))), (0, .ref (d 0)), (1, .int (iI i)), (2, .int (iI a))]) Ex Eb dX8_balanceAfter_40 hl (by decide) rfl (fun ls hl => ?_)
      have lp42 : ∀ (n : Nat) (K : Nat → Int) (ix : Int), (a - ix).toNat < n → (sameP M K ∧ K 0 = 0) → (SR (runL ix.toNat (WL w i)) K (wOf w i 2) (wOf w i 4) (wOf w i 3 - ix)) → (0 ≤ ix ∧ ix ≤ a) → ∀ (H : Heap) (locs : List Loc) (ls : Array Slot), lo_Wd X ([oX8 (d 0) (K 0) (d 1) (d 2) (K 3) (d 3) (K 5) (d 4) (d 5) (d 6) (K 9) (d 7) (K 11) (K 12) (K 13) (K 14) (K 15) (K 16) (K 17) (K 18) (K 19) (K 20) (K 21) (K 22) (K 23) (K 24) (K 25) (K 26) (K 27) (K 28), arI X (d 1) 122 w]) A9 s9.heap H locs → lv_has ls 5 [(0, .ref (d 0)), (1, .int (iI i)), (2, .int (iI a)), (3, .int (iI (wOf w i 3))), (4, .int (iI ix))] → W p9 l e9 ({ frames := 2, cells := 0, slots := 0, locals := 45 } : Room) s9 m9 ([.ref (d 0), .int (iI i), .int (iI a)] : List Value).toArray bl9 me9 c9 H locs 0 0 (MQ bl9 (lo_Qc X ([oX8 (d 0) (M 0) (d 1) (d 2) (M 3) (d 3) (M 5) (d 4) (d 5) (d 6) (M 9) (d 7) (M 11) (M 12) (M 13) (M 14) (M 15) (M 16) (M 17) (M 18) (M 19) (M 20) (M 21) (M 22) (M 23) (M 24) (M 25) (M 26) (M 27) (M 28), arI X (d 1) 122 w]) s9.heap.size (fun v9 w9 => ∃ N : Nat → Int, ∃ r : Int, (sameP M N) ∧ ((N 0 = 0 ∧ (0 ≤ i ∧ i < w 0) ∧ (0 ≤ a ∧ a ≤ 120) ∧ r = runL a.toNat (WL w i) 1) ∨ (N 0 = 1 ∧ ¬ (0 ≤ i ∧ i < w 0)) ∨ (N 0 = 2 ∧ (0 ≤ i ∧ i < w 0) ∧ ¬ (0 ≤ a ∧ a ≤ 120))) ∧ v9 = some (.int (iI r)) ∧ w9 = [oX8 (d 0) (N 0) (d 1) (d 2) (N 3) (d 3) (N 5) (d 4) (d 5) (d 6) (N 9) (d 7) (N 11) (N 12) (N 13) (N 14) (N 15) (N 16) (N 17) (N 18) (N 19) (N 20) (N 21) (N 22) (N 23) (N 24) (N 25) (N 26) (N 27) (N 28), arI X (d 1) 122 w])) ([.ref (d 0), .int (iI i), .int (iI a)] : List Value).toArray s9 0 0 A9) (F0 m9 42 ls []) := by
        intro n
        induction n with
        | zero => intro K ix hn; exact absurd hn (Nat.not_lt_zero _)
        | succ n ih42 =>
          intro K ix hn42 iv42_0 iv42_1 iv42_2 H locs ls hw hl
          obtain ⟨hs0, hs1, hs2⟩ := id iv42_1
          have hs3 := hs0.1
          have hs4 := hs0.2.2.1
          have hs5 := hs0.2.1
          refine lv_iload Ex Eb dX8_balanceAfter_42 (lv_at hl 4 rfl) ?_
          refine lv_iload_n Ex Eb dX8_balanceAfter_44 rfl (lv_at hl 2 rfl) ?_
          refine lo_icmp_ge (tgt := 84) E dX8_balanceAfter_45 (by decide) (by omega) (by omega) (fun c7 => ?_) (fun c7 => ?_)
          · skip
            refine lv_aload_n Ex Eb dX8_balanceAfter_84 rfl (lv_at hl 0 rfl) ?_
            refine lo_get E hK hw huRX8 12 hf78 rfl 0 rfl rfl (by decide) (v := .long (iL (K 12))) rfl dX8_balanceAfter_85 ?_
            refine lo_l2i E dX8_balanceAfter_88 ?_
            exact lo_iret E hRt hLk hK hAe hw dX8_balanceAfter_89 rfl ⟨K, K 12, (by first | exact sameP_t | exact iv42_0.1), (by first | (refine Or.inl ⟨iv42_0.2, by omega, by omega, ?_⟩; first | (rw [show a = ix by omega]; exact hs1) | (rw [runL_st (show runL ix.toNat (WL w i) 1 ≤ 0 by omega) (show ix.toNat ≤ a.toNat by omega)]; exact hs1)) | (simp only [uI_s, and_true]; omega)), rfl, rfl⟩
          · skip
            refine lv_aload_n Ex Eb dX8_balanceAfter_48 rfl (lv_at hl 0 rfl) ?_
            refine lo_get E hK hw huRX8 12 hf78 rfl 0 rfl rfl (by decide) (v := .long (iL (K 12))) rfl dX8_balanceAfter_49 ?_
            refine lv_lconst (v := iL 0) Ex Eb dX8_balanceAfter_52 rfl ?_
            refine lo_lcmp E dX8_balanceAfter_53 (by omega) (by omega) (fun zc8 rzc8 dzc8 => ?_)
            refine lo_if_le (tgt := 84) E dX8_balanceAfter_54 (by decide) (by omega) (fun c9 => ?_) (fun c9 => ?_)
            · skip
              refine lv_aload_n Ex Eb dX8_balanceAfter_84 rfl (lv_at hl 0 rfl) ?_
              refine lo_get E hK hw huRX8 12 hf78 rfl 0 rfl rfl (by decide) (v := .long (iL (K 12))) rfl dX8_balanceAfter_85 ?_
              refine lo_l2i E dX8_balanceAfter_88 ?_
              exact lo_iret E hRt hLk hK hAe hw dX8_balanceAfter_89 rfl ⟨K, K 12, (by first | exact sameP_t | exact iv42_0.1), (by first | (refine Or.inl ⟨iv42_0.2, by omega, by omega, ?_⟩; first | (rw [show a = ix by omega]; exact hs1) | (rw [runL_st (show runL ix.toNat (WL w i) 1 ≤ 0 by omega) (show ix.toNat ≤ a.toNat by omega)]; exact hs1)) | (simp only [uI_s, and_true]; omega)), rfl, rfl⟩
            · skip
              have hs6 := hs2 (by omega)
              have hs7 := SR_s iv42_1 (by omega)
              have hm3 := hLi.2.2.2.1
              change 0 ≤ wOf w i 3 ∧ wOf w i 3 ≤ 120 at hm3
              refine lv_aload_n Ex Eb dX8_balanceAfter_57 rfl (lv_at hl 0 rfl) ?_
              refine lv_aload_n Ex Eb dX8_balanceAfter_58 rfl (lv_at hl 0 rfl) ?_
              refine lv_iload_n Ex Eb dX8_balanceAfter_59 rfl (lv_at hl 1 rfl) ?_
              refine lv_iconst (v := iI 2) Ex Eb dX8_balanceAfter_60 rfl ?_
              refine lo_callV (q0 := 0) (rest := [.ref (d 0)]) E hK hw (kX8_of l X d K w i 2 (by omega) (by omega)) (cwV 2 E.2.2.2.2 gX8_balanceAfter_X8_of rfl rfl rfl (by decide +kernel) ⟨Nat.le_of_ble_eq_true rfl, Nat.le_of_ble_eq_true rfl⟩) rfl rfl [0, 1] rfl (by decide) hl.1 rfl rfl (Nat.le_of_ble_eq_true rfl) dX8_balanceAfter_61 ⟨Nat.le_of_ble_eq_true rfl, Nat.le_of_ble_eq_true rfl⟩ (fun v w1 H locs hq hw => ?_)
              obtain ⟨rfl, rfl⟩ := hq
              have hw : lo_Wd X ([oX8 (d 0) (K 0) (d 1) (d 2) (K 3) (d 3) (K 5) (d 4) (d 5) (d 6) (K 9) (d 7) (K 11) (K 12) (K 13) (K 14) (K 15) (K 16) (K 17) (K 18) (K 19) (K 20) (K 21) (K 22) (K 23) (K 24) (K 25) (K 26) (K 27) (K 28), arI X (d 1) 122 w]) A9 s9.heap H locs := hw
              refine W.eq (g2 := F0 m9 64 ls [.int (iI (wOf w i 2)), .ref (d 0)]) rfl ?_
              refine lv_aload_n Ex Eb dX8_balanceAfter_64 rfl (lv_at hl 0 rfl) ?_
              refine lv_iload_n Ex Eb dX8_balanceAfter_65 rfl (lv_at hl 1 rfl) ?_
              refine lv_iconst (v := iI 4) Ex Eb dX8_balanceAfter_66 rfl ?_
              refine lo_callV (q0 := 0) (rest := [.int (iI (wOf w i 2)), .ref (d 0)]) E hK hw (kX8_of l X d K w i 4 (by omega) (by omega)) (cwV 2 E.2.2.2.2 gX8_balanceAfter_X8_of rfl rfl rfl (by decide +kernel) ⟨Nat.le_of_ble_eq_true rfl, Nat.le_of_ble_eq_true rfl⟩) rfl rfl [0, 1] rfl (by decide) hl.1 rfl rfl (Nat.le_of_ble_eq_true rfl) dX8_balanceAfter_67 ⟨Nat.le_of_ble_eq_true rfl, Nat.le_of_ble_eq_true rfl⟩ (fun v w1 H locs hq hw => ?_)
              obtain ⟨rfl, rfl⟩ := hq
              have hw : lo_Wd X ([oX8 (d 0) (K 0) (d 1) (d 2) (K 3) (d 3) (K 5) (d 4) (d 5) (d 6) (K 9) (d 7) (K 11) (K 12) (K 13) (K 14) (K 15) (K 16) (K 17) (K 18) (K 19) (K 20) (K 21) (K 22) (K 23) (K 24) (K 25) (K 26) (K 27) (K 28), arI X (d 1) 122 w]) A9 s9.heap H locs := hw
              refine W.eq (g2 := F0 m9 70 ls [.int (iI (wOf w i 4)), .int (iI (wOf w i 2)), .ref (d 0)]) rfl ?_
              refine lo_i2l E dX8_balanceAfter_70 (by omega) ?_
              refine lv_iload_n Ex Eb dX8_balanceAfter_71 rfl (lv_at hl 3 rfl) ?_
              refine lv_iload Ex Eb dX8_balanceAfter_72 (lv_at hl 4 rfl) ?_
              refine lo_isub E dX8_balanceAfter_74 ?_
              refine lo_callV (q0 := 0) (rest := []) E hK hw (kX8_step l X d K (wOf w i 2) (wOf w i 4) ((wOf w i 3) - ix) (by omega) (by omega) (by omega) (by omega) (by omega)) (cwV 3 E.2.2.2.2 gX8_balanceAfter_X8_step rfl rfl rfl (by decide +kernel) ⟨Nat.le_of_ble_eq_true rfl, Nat.le_of_ble_eq_true rfl⟩) rfl rfl [0] rfl (by decide) hl.1 rfl rfl (Nat.le_of_ble_eq_true rfl) dX8_balanceAfter_75 ⟨Nat.le_of_ble_eq_true rfl, Nat.le_of_ble_eq_true rfl⟩ (fun v w1 H locs hq hw => ?_)
              obtain ⟨rfl, rfl⟩ := hq
              have hw : lo_Wd X ([oX8 (d 0) (stM K (wOf w i 2) (wOf w i 4) ((wOf w i 3) - ix) 0) (d 1) (d 2) (stM K (wOf w i 2) (wOf w i 4) ((wOf w i 3) - ix) 3) (d 3) (stM K (wOf w i 2) (wOf w i 4) ((wOf w i 3) - ix) 5) (d 4) (d 5) (d 6) (stM K (wOf w i 2) (wOf w i 4) ((wOf w i 3) - ix) 9) (d 7) (stM K (wOf w i 2) (wOf w i 4) ((wOf w i 3) - ix) 11) (stM K (wOf w i 2) (wOf w i 4) ((wOf w i 3) - ix) 12) (stM K (wOf w i 2) (wOf w i 4) ((wOf w i 3) - ix) 13) (stM K (wOf w i 2) (wOf w i 4) ((wOf w i 3) - ix) 14) (stM K (wOf w i 2) (wOf w i 4) ((wOf w i 3) - ix) 15) (stM K (wOf w i 2) (wOf w i 4) ((wOf w i 3) - ix) 16) (stM K (wOf w i 2) (wOf w i 4) ((wOf w i 3) - ix) 17) (stM K (wOf w i 2) (wOf w i 4) ((wOf w i 3) - ix) 18) (stM K (wOf w i 2) (wOf w i 4) ((wOf w i 3) - ix) 19) (stM K (wOf w i 2) (wOf w i 4) ((wOf w i 3) - ix) 20) (stM K (wOf w i 2) (wOf w i 4) ((wOf w i 3) - ix) 21) (stM K (wOf w i 2) (wOf w i 4) ((wOf w i 3) - ix) 22) (stM K (wOf w i 2) (wOf w i 4) ((wOf w i 3) - ix) 23) (stM K (wOf w i 2) (wOf w i 4) ((wOf w i 3) - ix) 24) (stM K (wOf w i 2) (wOf w i 4) ((wOf w i 3) - ix) 25) (stM K (wOf w i 2) (wOf w i 4) ((wOf w i 3) - ix) 26) (stM K (wOf w i 2) (wOf w i 4) ((wOf w i 3) - ix) 27) (stM K (wOf w i 2) (wOf w i 4) ((wOf w i 3) - ix) 28), arI X (d 1) 122 w]) A9 s9.heap H locs := hw
              refine W.eq (g2 := F0 m9 78 ls []) rfl ?_
              refine lo_iinc (lv' := [(4, .int (iI (ix + 1))), (0, .ref (d 0)), (1, .int (iI i)), (2, .int (iI a)), (3, .int (iI (wOf w i 3)))]) E dX8_balanceAfter_78 hl (k := 4) rfl (by decide) rfl (fun ls hl => ?_)
              refine lv_goto (tgt := 42) Ex Eb dX8_balanceAfter_81 (by decide) ?_
              exact ih42 (stM K (wOf w i 2) (wOf w i 4) ((wOf w i 3) - ix)) (ix + 1) (by omega) (⟨iv42_0.1.tr (sameP_s (stM_same _ _ _ _)), (sameW_0 (stM_same _ _ _ _)).trans iv42_0.2⟩) (by rw [show (ix + 1).toNat = ix.toNat + 1 by omega, show wOf w i 3 - (ix + 1) = wOf w i 3 - ix - 1 by omega]; exact (SR_y iv42_1 (by omega)).1) (by omega) _ _ _ hw (lv_sub hl [1, 2, 3, 4, 0] rfl)
      exact lp42 _ (bgM (uI M 0 t5) (wOf w i 1) (wOf w i 5)) 0 (Nat.lt_succ_self _) (⟨sameP_w (bgM_same _ _ _), (sameW_0 (bgM_same _ _ _)).trans (uI_s.trans (by omega))⟩) (by rw [show wOf w i 3 - 0 = wOf w i 3 by omega]; exact SR_0 hLi) (by omega) _ _ _ hw (lv_sub hl [2, 3, 4, 1, 0] rfl)
    · skip
      refine lv_iconst (v := iI 0) Ex Eb dX8_balanceAfter_25 rfl ?_
      exact lo_iret E hRt hLk hK hAe hw dX8_balanceAfter_26 rfl ⟨uI M 0 t5, 0, (by first | exact sameP_t | exact iv42_0.1), (by first | (refine Or.inl ⟨iv42_0.2, by omega, by omega, ?_⟩; first | (rw [show a = ix by omega]; exact hs1) | (rw [runL_st (show runL ix.toNat (WL w i) 1 ≤ 0 by omega) (show ix.toNat ≤ a.toNat by omega)]; exact hs1)) | (simp only [uI_s, and_true]; omega)), rfl, rfl⟩
set_option maxHeartbeats 4000000 in
set_option maxRecDepth 100000 in
theorem kX8_monthsToHalf (l : Launch) (X : KX) (d : Nat → Nat) (M w : Nat → Int) (i : Int) (hWI : WI w) (hpr : ∀ i : Int, 0 ≤ i → i < w 0 → 0 ≤ wOf w i 0 ∧ wOf w i 0 ≤ 9999999) (hi : i32 i) : CM l X yX8_monthsToHalf wsX8_monthsToHalf ({ frames := 3, cells := 0, slots := 0, locals := 66 }) [.ref (d 0), .int (iI i)] ([oX8 (d 0) (M 0) (d 1) (d 2) (M 3) (d 3) (M 5) (d 4) (d 5) (d 6) (M 9) (d 7) (M 11) (M 12) (M 13) (M 14) (M 15) (M 16) (M 17) (M 18) (M 19) (M 20) (M 21) (M 22) (M 23) (M 24) (M 25) (M 26) (M 27) (M 28), arI X (d 1) 122 w]) (fun v9 w9 => ∃ N : Nat → Int, ∃ r : Int, (sameP M N) ∧ ((N 0 = 0 ∧ 0 ≤ i ∧ i < w 0 ∧ r = untL 120 (WL w i) (wOf w i 0 / 2)) ∨ (N 0 = 1 ∧ ¬ (0 ≤ i ∧ i < w 0))) ∧ v9 = some (.int (iI r)) ∧ w9 = [oX8 (d 0) (N 0) (d 1) (d 2) (N 3) (d 3) (N 5) (d 4) (d 5) (d 6) (N 9) (d 7) (N 11) (N 12) (N 13) (N 14) (N 15) (N 16) (N 17) (N 18) (N 19) (N 20) (N 21) (N 22) (N 23) (N 24) (N 25) (N 26) (N 27) (N 28), arI X (d 1) 122 w]) 0 0 := by
  refine lo_enter (cc := cX8_monthsToHalf) (maxL := 3) (ret := (some .int)) (lv := [(0, .ref (d 0)), (1, .int (iI i))]) (by decide) rfl rfl (Nat.le_of_ble_eq_true rfl) ?_
  intro p9 e9 s9 m9 bl9 me9 c9 A9 ls hAe E hRt hLk hK hl hw
  have Ex := E.1
  have Eb := E.2.1
  have hc115 : (Cond.constantLong RX8 115 (2)).before _ s9 = true := E.2.2.2.2 _ (List.mem_of_getElem? (i := 1) rfl)
  have huRX8 : ∀ w ∈ u_ws RX8 TX8 29, w ∈ wsX8_monthsToHalf := by decide +kernel
  have hf78 : (Cond.fieldLink RX8 78 "LoanScheduleModel" "walkBalance" "J").before _ s9 = true := E.2.2.2.2 _ (List.mem_of_getElem? (i := 2) rfl)
  obtain ⟨⟨hn0, hn1⟩, ⟨hb0, hb1⟩, hL⟩ := id hWI
  refine lv_aload_n Ex Eb dX8_monthsToHalf_0 rfl (lv_at hl 0 rfl) ?_
  refine lv_iload_n Ex Eb dX8_monthsToHalf_1 rfl (lv_at hl 1 rfl) ?_
  refine lo_callV (q0 := 0) (rest := []) E hK hw (kX8_noOpen l X d M w i (hWI) (by omega)) (cwV 1 E.2.2.2.2 gX8_monthsToHalf_X8_noOpen rfl rfl rfl (by decide +kernel) ⟨Nat.le_of_ble_eq_true rfl, Nat.le_of_ble_eq_true rfl⟩) rfl rfl [0, 1] rfl (by decide) hl.1 rfl rfl (Nat.le_of_ble_eq_true rfl) dX8_monthsToHalf_2 ⟨Nat.le_of_ble_eq_true rfl, Nat.le_of_ble_eq_true rfl⟩ (fun v w1 H locs hq hw => ?_)
  obtain ⟨z1, t2, q2_0, rfl, rfl⟩ := hq
  have hw : lo_Wd X ([oX8 (d 0) t2 (d 1) (d 2) (M 3) (d 3) (M 5) (d 4) (d 5) (d 6) (M 9) (d 7) (M 11) (M 12) (M 13) (M 14) (M 15) (M 16) (M 17) (M 18) (M 19) (M 20) (M 21) (M 22) (M 23) (M 24) (M 25) (M 26) (M 27) (M 28), arI X (d 1) 122 w]) A9 s9.heap H locs := hw
  refine W.eq (g2 := F0 m9 5 ls [.int (iI z1)]) rfl ?_
  refine lo_if_eq (tgt := 10) E dX8_monthsToHalf_5 (by decide) (by omega) (fun c3 => ?_) (fun c3 => ?_)
  · skip
    have hLi := hL i (by omega) (by omega)
    have hW1 := WI_1 hWI (i := i) (by omega) (by omega)
    have hc5 : 0 ≤ wOf w i 5 ∧ wOf w i 5 < 120000 := hLi.2.2.1
    have hi4 : 0 ≤ wOf w i 4 ∧ wOf w i 4 ≤ 10249999 := hLi.2.2.2.2.1
    have hp9 := hpr i (by omega) (by omega)
    refine lv_aload_n Ex Eb dX8_monthsToHalf_10 rfl (lv_at hl 0 rfl) ?_
    refine lv_iload_n Ex Eb dX8_monthsToHalf_11 rfl (lv_at hl 1 rfl) ?_
    refine lo_callV (q0 := 0) (rest := []) E hK hw (kX8_beginWith l X d (uI M 0 t2) w i (by omega) (by omega) (by omega)) (cwV 1 E.2.2.2.2 gX8_monthsToHalf_X8_beginWith rfl rfl rfl (by decide +kernel) ⟨Nat.le_of_ble_eq_true rfl, Nat.le_of_ble_eq_true rfl⟩) rfl rfl [0, 1] rfl (by decide) hl.1 rfl rfl (Nat.le_of_ble_eq_true rfl) dX8_monthsToHalf_12 ⟨Nat.le_of_ble_eq_true rfl, Nat.le_of_ble_eq_true rfl⟩ (fun v w1 H locs hq hw => ?_)
    obtain ⟨rfl, rfl⟩ := hq
    have hw : lo_Wd X ([oX8 (d 0) (bgM (uI M 0 t2) (wOf w i 1) (wOf w i 5) 0) (d 1) (d 2) (bgM (uI M 0 t2) (wOf w i 1) (wOf w i 5) 3) (d 3) (bgM (uI M 0 t2) (wOf w i 1) (wOf w i 5) 5) (d 4) (d 5) (d 6) (bgM (uI M 0 t2) (wOf w i 1) (wOf w i 5) 9) (d 7) (bgM (uI M 0 t2) (wOf w i 1) (wOf w i 5) 11) (bgM (uI M 0 t2) (wOf w i 1) (wOf w i 5) 12) (bgM (uI M 0 t2) (wOf w i 1) (wOf w i 5) 13) (bgM (uI M 0 t2) (wOf w i 1) (wOf w i 5) 14) (bgM (uI M 0 t2) (wOf w i 1) (wOf w i 5) 15) (bgM (uI M 0 t2) (wOf w i 1) (wOf w i 5) 16) (bgM (uI M 0 t2) (wOf w i 1) (wOf w i 5) 17) (bgM (uI M 0 t2) (wOf w i 1) (wOf w i 5) 18) (bgM (uI M 0 t2) (wOf w i 1) (wOf w i 5) 19) (bgM (uI M 0 t2) (wOf w i 1) (wOf w i 5) 20) (bgM (uI M 0 t2) (wOf w i 1) (wOf w i 5) 21) (bgM (uI M 0 t2) (wOf w i 1) (wOf w i 5) 22) (bgM (uI M 0 t2) (wOf w i 1) (wOf w i 5) 23) (bgM (uI M 0 t2) (wOf w i 1) (wOf w i 5) 24) (bgM (uI M 0 t2) (wOf w i 1) (wOf w i 5) 25) (bgM (uI M 0 t2) (wOf w i 1) (wOf w i 5) 26) (bgM (uI M 0 t2) (wOf w i 1) (wOf w i 5) 27) (bgM (uI M 0 t2) (wOf w i 1) (wOf w i 5) 28), arI X (d 1) 122 w]) A9 s9.heap H locs := hw
    refine W.eq (g2 := F0 m9 15 ls []) rfl ?_
    refine lv_iconst (v := iI 0) Ex Eb dX8_monthsToHalf_15 rfl ?_
    refine lv_istore_n (lv' := [(2, .int (iI 0)), (0, .ref (d 0)), (1, .int (iI i))]) Ex Eb dX8_monthsToHalf_16 rfl hl (by decide) rfl (fun ls hl => ?_)
    have lp17 : ∀ (n : Nat) (K G : Nat → Int) (ct : Int), (120 - ct).toNat < n → (sameP M K ∧ K 0 = 0) → (SR G K (wOf w i 2) (wOf w i 4) (wOf w i 3 - ct)) → (0 ≤ ct ∧ ct ≤ 120) → (untL (120 - ct).toNat G (wOf w i 0 / 2) + ct = untL 120 (WL w i) (wOf w i 0 / 2)) → ∀ (H : Heap) (locs : List Loc) (ls : Array Slot), lo_Wd X ([oX8 (d 0) (K 0) (d 1) (d 2) (K 3) (d 3) (K 5) (d 4) (d 5) (d 6) (K 9) (d 7) (K 11) (K 12) (K 13) (K 14) (K 15) (K 16) (K 17) (K 18) (K 19) (K 20) (K 21) (K 22) (K 23) (K 24) (K 25) (K 26) (K 27) (K 28), arI X (d 1) 122 w]) A9 s9.heap H locs → lv_has ls 3 [(0, .ref (d 0)), (1, .int (iI i)), (2, .int (iI ct))] → W p9 l e9 ({ frames := 3, cells := 0, slots := 0, locals := 66 } : Room) s9 m9 ([.ref (d 0), .int (iI i)] : List Value).toArray bl9 me9 c9 H locs 0 0 (MQ bl9 (lo_Qc X ([oX8 (d 0) (M 0) (d 1) (d 2) (M 3) (d 3) (M 5) (d 4) (d 5) (d 6) (M 9) (d 7) (M 11) (M 12) (M 13) (M 14) (M 15) (M 16) (M 17) (M 18) (M 19) (M 20) (M 21) (M 22) (M 23) (M 24) (M 25) (M 26) (M 27) (M 28), arI X (d 1) 122 w]) s9.heap.size (fun v9 w9 => ∃ N : Nat → Int, ∃ r : Int, (sameP M N) ∧ ((N 0 = 0 ∧ 0 ≤ i ∧ i < w 0 ∧ r = untL 120 (WL w i) (wOf w i 0 / 2)) ∨ (N 0 = 1 ∧ ¬ (0 ≤ i ∧ i < w 0))) ∧ v9 = some (.int (iI r)) ∧ w9 = [oX8 (d 0) (N 0) (d 1) (d 2) (N 3) (d 3) (N 5) (d 4) (d 5) (d 6) (N 9) (d 7) (N 11) (N 12) (N 13) (N 14) (N 15) (N 16) (N 17) (N 18) (N 19) (N 20) (N 21) (N 22) (N 23) (N 24) (N 25) (N 26) (N 27) (N 28), arI X (d 1) 122 w])) ([.ref (d 0), .int (iI i)] : List Value).toArray s9 0 0 A9) (F0 m9 17 ls []) := by
      intro n
      induction n with
      | zero => intro K G ct hn; exact absurd hn (Nat.not_lt_zero _)
      | succ n ih17 =>
        intro K G ct hn17 iv17_0 iv17_1 iv17_2 iv17_3 H locs ls hw hl
        obtain ⟨hs0, hs1, hs2⟩ := id iv17_1
        have hs3 := hs0.1
        have hs4 := hs0.2.2.1
        have hs5 := hs0.2.1
        refine lo_ldc2 (z := 2) E hc115 dX8_monthsToHalf_17 rfl ?_
        refine lv_aload_n Ex Eb dX8_monthsToHalf_20 rfl (lv_at hl 0 rfl) ?_
        refine lo_get E hK hw huRX8 12 hf78 rfl 0 rfl rfl (by decide) (v := .long (iL (K 12))) rfl dX8_monthsToHalf_21 ?_
        refine lo_lmul E dX8_monthsToHalf_24 ?_
        refine lv_aload_n Ex Eb dX8_monthsToHalf_25 rfl (lv_at hl 0 rfl) ?_
        refine lv_iload_n Ex Eb dX8_monthsToHalf_26 rfl (lv_at hl 1 rfl) ?_
        refine lv_iconst (v := iI 0) Ex Eb dX8_monthsToHalf_27 rfl ?_
        refine lo_callV (q0 := 0) (rest := [.long (iL (2 * K 12))]) E hK hw (kX8_of l X d K w i 0 (by omega) (by omega)) (cwV 2 E.2.2.2.2 gX8_monthsToHalf_X8_of rfl rfl rfl (by decide +kernel) ⟨Nat.le_of_ble_eq_true rfl, Nat.le_of_ble_eq_true rfl⟩) rfl rfl [0, 1] rfl (by decide) hl.1 rfl rfl (Nat.le_of_ble_eq_true rfl) dX8_monthsToHalf_28 ⟨Nat.le_of_ble_eq_true rfl, Nat.le_of_ble_eq_true rfl⟩ (fun v w1 H locs hq hw => ?_)
        obtain ⟨rfl, rfl⟩ := hq
        have hw : lo_Wd X ([oX8 (d 0) (K 0) (d 1) (d 2) (K 3) (d 3) (K 5) (d 4) (d 5) (d 6) (K 9) (d 7) (K 11) (K 12) (K 13) (K 14) (K 15) (K 16) (K 17) (K 18) (K 19) (K 20) (K 21) (K 22) (K 23) (K 24) (K 25) (K 26) (K 27) (K 28), arI X (d 1) 122 w]) A9 s9.heap H locs := hw
        refine W.eq (g2 := F0 m9 31 ls [.int (iI (wOf w i 0)), .long (iL (2 * K 12))]) rfl ?_
        refine lo_i2l E dX8_monthsToHalf_31 (by omega) ?_
        refine lo_lcmp E dX8_monthsToHalf_32 (by omega) (by omega) (fun zc4 rzc4 dzc4 => ?_)
        refine lo_if_le (tgt := 67) E dX8_monthsToHalf_33 (by decide) (by omega) (fun c5 => ?_) (fun c5 => ?_)
        · skip
          refine lv_iload_n Ex Eb dX8_monthsToHalf_67 rfl (lv_at hl 2 rfl) ?_
          exact lo_iret E hRt hLk hK hAe hw dX8_monthsToHalf_68 rfl ⟨K, ct, (by first | exact sameP_t | exact iv17_0.1), (by first | (refine Or.inl ⟨iv17_0.2, by omega, by omega, ?_⟩; rw [← iv17_3, untL_e (by omega)]; omega) | (simp only [uI_s]; rcases (show (0 ≤ i ∧ i < w 0) ∨ ¬ (0 ≤ i ∧ i < w 0) by omega) with hc9 | hc9; (have hp9 := hpr i hc9.1 hc9.2; have hz : untL 120 (WL w i) (wOf w i 0 / 2) = 0 := untL_e (show wOf w i 1 ≤ wOf w i 0 / 2 by omega); omega); omega)), rfl, rfl⟩
        · skip
          have hs6 := hs2 (by omega)
          have hs7 := SR_s iv17_1 (by omega)
          have hm3 := hLi.2.2.2.1
          change 0 ≤ wOf w i 3 ∧ wOf w i 3 ≤ 120 at hm3
          refine lv_aload_n Ex Eb dX8_monthsToHalf_36 rfl (lv_at hl 0 rfl) ?_
          refine lv_aload_n Ex Eb dX8_monthsToHalf_37 rfl (lv_at hl 0 rfl) ?_
          refine lv_iload_n Ex Eb dX8_monthsToHalf_38 rfl (lv_at hl 1 rfl) ?_
          refine lv_iconst (v := iI 2) Ex Eb dX8_monthsToHalf_39 rfl ?_
          refine lo_callV (q0 := 0) (rest := [.ref (d 0)]) E hK hw (kX8_of l X d K w i 2 (by omega) (by omega)) (cwV 2 E.2.2.2.2 gX8_monthsToHalf_X8_of rfl rfl rfl (by decide +kernel) ⟨Nat.le_of_ble_eq_true rfl, Nat.le_of_ble_eq_true rfl⟩) rfl rfl [0, 1] rfl (by decide) hl.1 rfl rfl (Nat.le_of_ble_eq_true rfl) dX8_monthsToHalf_40 ⟨Nat.le_of_ble_eq_true rfl, Nat.le_of_ble_eq_true rfl⟩ (fun v w1 H locs hq hw => ?_)
          obtain ⟨rfl, rfl⟩ := hq
          have hw : lo_Wd X ([oX8 (d 0) (K 0) (d 1) (d 2) (K 3) (d 3) (K 5) (d 4) (d 5) (d 6) (K 9) (d 7) (K 11) (K 12) (K 13) (K 14) (K 15) (K 16) (K 17) (K 18) (K 19) (K 20) (K 21) (K 22) (K 23) (K 24) (K 25) (K 26) (K 27) (K 28), arI X (d 1) 122 w]) A9 s9.heap H locs := hw
          refine W.eq (g2 := F0 m9 43 ls [.int (iI (wOf w i 2)), .ref (d 0)]) rfl ?_
          refine lv_aload_n Ex Eb dX8_monthsToHalf_43 rfl (lv_at hl 0 rfl) ?_
          refine lv_iload_n Ex Eb dX8_monthsToHalf_44 rfl (lv_at hl 1 rfl) ?_
          refine lv_iconst (v := iI 4) Ex Eb dX8_monthsToHalf_45 rfl ?_
          refine lo_callV (q0 := 0) (rest := [.int (iI (wOf w i 2)), .ref (d 0)]) E hK hw (kX8_of l X d K w i 4 (by omega) (by omega)) (cwV 2 E.2.2.2.2 gX8_monthsToHalf_X8_of rfl rfl rfl (by decide +kernel) ⟨Nat.le_of_ble_eq_true rfl, Nat.le_of_ble_eq_true rfl⟩) rfl rfl [0, 1] rfl (by decide) hl.1 rfl rfl (Nat.le_of_ble_eq_true rfl) dX8_monthsToHalf_46 ⟨Nat.le_of_ble_eq_true rfl, Nat.le_of_ble_eq_true rfl⟩ (fun v w1 H locs hq hw => ?_)
          obtain ⟨rfl, rfl⟩ := hq
          have hw : lo_Wd X ([oX8 (d 0) (K 0) (d 1) (d 2) (K 3) (d 3) (K 5) (d 4) (d 5) (d 6) (K 9) (d 7) (K 11) (K 12) (K 13) (K 14) (K 15) (K 16) (K 17) (K 18) (K 19) (K 20) (K 21) (K 22) (K 23) (K 24) (K 25) (K 26) (K 27) (K 28), arI X (d 1) 122 w]) A9 s9.heap H locs := hw
          refine W.eq (g2 := F0 m9 49 ls [.int (iI (wOf w i 4)), .int (iI (wOf w i 2)), .ref (d 0)]) rfl ?_
          refine lo_i2l E dX8_monthsToHalf_49 (by omega) ?_
          refine lv_aload_n Ex Eb dX8_monthsToHalf_50 rfl (lv_at hl 0 rfl) ?_
          refine lv_iload_n Ex Eb dX8_monthsToHalf_51 rfl (lv_at hl 1 rfl) ?_
          refine lv_iconst (v := iI 3) Ex Eb dX8_monthsToHalf_52 rfl ?_
          refine lo_callV (q0 := 0) (rest := [.long (iL (wOf w i 4)), .int (iI (wOf w i 2)), .ref (d 0)]) E hK hw (kX8_of l X d K w i 3 (by omega) (by omega)) (cwV 2 E.2.2.2.2 gX8_monthsToHalf_X8_of rfl rfl rfl (by decide +kernel) ⟨Nat.le_of_ble_eq_true rfl, Nat.le_of_ble_eq_true rfl⟩) rfl rfl [0, 1] rfl (by decide) hl.1 rfl rfl (Nat.le_of_ble_eq_true rfl) dX8_monthsToHalf_53 ⟨Nat.le_of_ble_eq_true rfl, Nat.le_of_ble_eq_true rfl⟩ (fun v w1 H locs hq hw => ?_)
          obtain ⟨rfl, rfl⟩ := hq
          have hw : lo_Wd X ([oX8 (d 0) (K 0) (d 1) (d 2) (K 3) (d 3) (K 5) (d 4) (d 5) (d 6) (K 9) (d 7) (K 11) (K 12) (K 13) (K 14) (K 15) (K 16) (K 17) (K 18) (K 19) (K 20) (K 21) (K 22) (K 23) (K 24) (K 25) (K 26) (K 27) (K 28), arI X (d 1) 122 w]) A9 s9.heap H locs := hw
          refine W.eq (g2 := F0 m9 56 ls [.int (iI (wOf w i 3)), .long (iL (wOf w i 4)), .int (iI (wOf w i 2)), .ref (d 0)]) rfl ?_
          refine lv_iload_n Ex Eb dX8_monthsToHalf_56 rfl (lv_at hl 2 rfl) ?_
          refine lo_isub E dX8_monthsToHalf_57 ?_
          refine lo_callV (q0 := 0) (rest := []) E hK hw (kX8_step l X d K (wOf w i 2) (wOf w i 4) (wOf w i 3 - ct) (by omega) (by omega) (by omega) (by omega) (by omega)) (cwV 3 E.2.2.2.2 gX8_monthsToHalf_X8_step rfl rfl rfl (by decide +kernel) ⟨Nat.le_of_ble_eq_true rfl, Nat.le_of_ble_eq_true rfl⟩) rfl rfl [0] rfl (by decide) hl.1 rfl rfl (Nat.le_of_ble_eq_true rfl) dX8_monthsToHalf_58 ⟨Nat.le_of_ble_eq_true rfl, Nat.le_of_ble_eq_true rfl⟩ (fun v w1 H locs hq hw => ?_)
          obtain ⟨rfl, rfl⟩ := hq
          have hw : lo_Wd X ([oX8 (d 0) (stM K (wOf w i 2) (wOf w i 4) (wOf w i 3 - ct) 0) (d 1) (d 2) (stM K (wOf w i 2) (wOf w i 4) (wOf w i 3 - ct) 3) (d 3) (stM K (wOf w i 2) (wOf w i 4) (wOf w i 3 - ct) 5) (d 4) (d 5) (d 6) (stM K (wOf w i 2) (wOf w i 4) (wOf w i 3 - ct) 9) (d 7) (stM K (wOf w i 2) (wOf w i 4) (wOf w i 3 - ct) 11) (stM K (wOf w i 2) (wOf w i 4) (wOf w i 3 - ct) 12) (stM K (wOf w i 2) (wOf w i 4) (wOf w i 3 - ct) 13) (stM K (wOf w i 2) (wOf w i 4) (wOf w i 3 - ct) 14) (stM K (wOf w i 2) (wOf w i 4) (wOf w i 3 - ct) 15) (stM K (wOf w i 2) (wOf w i 4) (wOf w i 3 - ct) 16) (stM K (wOf w i 2) (wOf w i 4) (wOf w i 3 - ct) 17) (stM K (wOf w i 2) (wOf w i 4) (wOf w i 3 - ct) 18) (stM K (wOf w i 2) (wOf w i 4) (wOf w i 3 - ct) 19) (stM K (wOf w i 2) (wOf w i 4) (wOf w i 3 - ct) 20) (stM K (wOf w i 2) (wOf w i 4) (wOf w i 3 - ct) 21) (stM K (wOf w i 2) (wOf w i 4) (wOf w i 3 - ct) 22) (stM K (wOf w i 2) (wOf w i 4) (wOf w i 3 - ct) 23) (stM K (wOf w i 2) (wOf w i 4) (wOf w i 3 - ct) 24) (stM K (wOf w i 2) (wOf w i 4) (wOf w i 3 - ct) 25) (stM K (wOf w i 2) (wOf w i 4) (wOf w i 3 - ct) 26) (stM K (wOf w i 2) (wOf w i 4) (wOf w i 3 - ct) 27) (stM K (wOf w i 2) (wOf w i 4) (wOf w i 3 - ct) 28), arI X (d 1) 122 w]) A9 s9.heap H locs := hw
          refine W.eq (g2 := F0 m9 61 ls []) rfl ?_
          refine lo_iinc (lv' := [(2, .int (iI (ct + 1))), (0, .ref (d 0)), (1, .int (iI i))]) E dX8_monthsToHalf_61 hl (k := 2) rfl (by decide) rfl (fun ls hl => ?_)
          refine lv_goto (tgt := 17) Ex Eb dX8_monthsToHalf_64 (by decide) ?_
          exact ih17 (stM K (wOf w i 2) (wOf w i 4) (wOf w i 3 - ct)) (payL G) (ct + 1) (by omega) (⟨iv17_0.1.tr (sameP_s (stM_same _ _ _ _)), (sameW_0 (stM_same _ _ _ _)).trans iv17_0.2⟩) (by rw [show wOf w i 3 - (ct + 1) = wOf w i 3 - ct - 1 by omega]; exact hs7.1) (by omega) (by rw [← iv17_3, show (120 - ct).toNat = (120 - (ct + 1)).toNat + 1 by omega, untL_s (by omega)]; omega) _ _ _ hw (lv_sub hl [1, 2, 0] rfl)
    exact lp17 _ (bgM (uI M 0 t2) (wOf w i 1) (wOf w i 5)) (WL w i) 0 (Nat.lt_succ_self _) (⟨sameP_w (bgM_same _ _ _), (sameW_0 (bgM_same _ _ _)).trans (uI_s.trans (by omega))⟩) (by rw [show wOf w i 3 - 0 = wOf w i 3 by omega]; exact SR_0 hLi) (by omega) (by rw [show (120 - (0:Int)).toNat = 120 by omega]; omega) _ _ _ hw (lv_sub hl [1, 2, 0] rfl)
  · skip
    refine lv_iconst (v := iI 0) Ex Eb dX8_monthsToHalf_8 rfl ?_
    exact lo_iret E hRt hLk hK hAe hw dX8_monthsToHalf_9 rfl ⟨uI M 0 t2, 0, (by first | exact sameP_t | exact iv17_0.1), (by first | (refine Or.inl ⟨iv17_0.2, by omega, by omega, ?_⟩; rw [← iv17_3, untL_e (by omega)]; omega) | (simp only [uI_s]; rcases (show (0 ≤ i ∧ i < w 0) ∨ ¬ (0 ≤ i ∧ i < w 0) by omega) with hc9 | hc9; (have hp9 := hpr i hc9.1 hc9.2; have hz : untL 120 (WL w i) (wOf w i 0 / 2) = 0 := untL_e (show wOf w i 1 ≤ wOf w i 0 / 2 by omega); omega); omega)), rfl, rfl⟩
set_option maxHeartbeats 4000000 in
set_option maxRecDepth 100000 in
theorem kX8_savingOfExtra (l : Launch) (X : KX) (d : Nat → Nat) (M w g : Nat → Int) (i a kp : Int) (hWI : WI w) (hi : i32 i) (ha : i32 a) (hkp : kp = 0 ∨ kp = 1) : CM l X yX8_savingOfExtra wsX8_savingOfExtra ({ frames := 6, cells := 0, slots := 0, locals := 151 }) [.ref (d 0), .int (iI i), .int (iI a), .int (iI kp)] ([oX8 (d 0) (M 0) (d 1) (d 2) (M 3) (d 3) (M 5) (d 4) (d 5) (d 6) (M 9) (d 7) (M 11) (M 12) (M 13) (M 14) (M 15) (M 16) (M 17) (M 18) (M 19) (M 20) (M 21) (M 22) (M 23) (M 24) (M 25) (M 26) (M 27) (M 28), arI X (d 1) 122 w, arI X (d 5) 122 g]) (fun v9 w9 => ∃ N : Nat → Int, ∃ g9 : Nat → Int, ∃ r : Int, (sameP M N) ∧ ((N 0 = 0 ∧ (0 ≤ i ∧ i < w 0) ∧ (1 ≤ a ∧ a ≤ 9999999) ∧ ((0 < wOf w i 1 ∧ a ≤ wOf w i 1 ∧ r = (runL 120 (WL w i) 6 - wOf w i 6) - (runL 120 (WL (wRed w i a kp) i) 6 - wOf (wRed w i a kp) i 6)) ∨ (¬ (0 < wOf w i 1 ∧ a ≤ wOf w i 1) ∧ r = 0))) ∨ (N 0 = 1 ∧ ¬ (0 ≤ i ∧ i < w 0)) ∨ (N 0 = 2 ∧ (0 ≤ i ∧ i < w 0) ∧ ¬ (1 ≤ a ∧ a ≤ 9999999))) ∧ v9 = some (.int (iI r)) ∧ w9 = [oX8 (d 0) (N 0) (d 1) (d 2) (N 3) (d 3) (N 5) (d 4) (d 5) (d 6) (N 9) (d 7) (N 11) (N 12) (N 13) (N 14) (N 15) (N 16) (N 17) (N 18) (N 19) (N 20) (N 21) (N 22) (N 23) (N 24) (N 25) (N 26) (N 27) (N 28), arI X (d 1) 122 w, arI X (d 5) 122 g9]) 0 0 := by
  refine lo_enter (cc := cX8_savingOfExtra) (maxL := 6) (ret := (some .int)) (lv := [(0, .ref (d 0)), (1, .int (iI i)), (2, .int (iI a)), (3, .int (iI kp))]) (by decide) rfl rfl (Nat.le_of_ble_eq_true rfl) ?_
  intro p9 e9 s9 m9 bl9 me9 c9 A9 ls hAe E hRt hLk hK hl hw
  have Ex := E.1
  have Eb := E.2.1
  have huRX8 : ∀ w ∈ u_ws RX8 TX8 29, w ∈ wsX8_savingOfExtra := by decide +kernel
  have hf56 : (Cond.fieldLink RX8 56 "LoanScheduleModel" "thrown" "I").before _ s9 = true := E.2.2.2.2 _ (List.mem_of_getElem? (i := 1) rfl)
  have hc154 : (Cond.constant RX8 154 (9999999)).before _ s9 = true := E.2.2.2.2 _ (List.mem_of_getElem? (i := 2) rfl)
  have hf9 : (Cond.fieldLink RX8 9 "LoanScheduleModel" "w" "[I").before _ s9 = true := E.2.2.2.2 _ (List.mem_of_getElem? (i := 3) rfl)
  have hf24 : (Cond.fieldLink RX8 24 "LoanScheduleModel" "aside" "[I").before _ s9 = true := E.2.2.2.2 _ (List.mem_of_getElem? (i := 4) rfl)
  obtain ⟨⟨hn0, hn1⟩, ⟨hb0, hb1⟩, hL⟩ := id hWI
  refine lv_aload_n Ex Eb dX8_savingOfExtra_0 rfl (lv_at hl 0 rfl) ?_
  refine lv_iconst (v := iI 0) Ex Eb dX8_savingOfExtra_1 rfl ?_
  refine lo_put E hK hw huRX8 tyX8 tyX8_ok nmX8 0 hf56 rfl 0 rfl rfl (by decide) rfl rfl rfl rfl (Nat.le_of_ble_eq_true rfl) (ws' := [oX8 (d 0) 0 (d 1) (d 2) (M 3) (d 3) (M 5) (d 4) (d 5) (d 6) (M 9) (d 7) (M 11) (M 12) (M 13) (M 14) (M 15) (M 16) (M 17) (M 18) (M 19) (M 20) (M 21) (M 22) (M 23) (M 24) (M 25) (M 26) (M 27) (M 28), arI X (d 1) 122 w, arI X (d 5) 122 g]) rfl dX8_savingOfExtra_2 (fun H locs hw => ?_)
  refine lv_aload_n Ex Eb dX8_savingOfExtra_5 rfl (lv_at hl 0 rfl) ?_
  refine lv_iload_n Ex Eb dX8_savingOfExtra_6 rfl (lv_at hl 1 rfl) ?_
  refine lo_callV (q0 := 0) (rest := []) E hK hw (kX8_noLoan l X d (uI M 0 0) w i (hWI) (by omega)) (cwV 1 E.2.2.2.2 gX8_savingOfExtra_X8_noLoan rfl rfl rfl (by decide +kernel) ⟨Nat.le_of_ble_eq_true rfl, Nat.le_of_ble_eq_true rfl⟩) rfl rfl [0, 1] rfl (by decide) hl.1 rfl rfl (Nat.le_of_ble_eq_true rfl) dX8_savingOfExtra_7 ⟨Nat.le_of_ble_eq_true rfl, Nat.le_of_ble_eq_true rfl⟩ (fun v w1 H locs hq hw => ?_)
  obtain ⟨z1, t2, q7_0, rfl, rfl⟩ := hq
  change (z1 = 0 ∧ t2 = 0 ∧ 0 ≤ i ∧ i < w 0) ∨ (z1 = 1 ∧ t2 = 1 ∧ ¬ (0 ≤ i ∧ i < w 0)) at q7_0
  have hw : lo_Wd X ([oX8 (d 0) t2 (d 1) (d 2) (M 3) (d 3) (M 5) (d 4) (d 5) (d 6) (M 9) (d 7) (M 11) (M 12) (M 13) (M 14) (M 15) (M 16) (M 17) (M 18) (M 19) (M 20) (M 21) (M 22) (M 23) (M 24) (M 25) (M 26) (M 27) (M 28), arI X (d 1) 122 w, arI X (d 5) 122 g]) A9 s9.heap H locs := hw
  refine W.eq (g2 := F0 m9 10 ls [.int (iI z1)]) rfl ?_
  refine lo_if_ne (tgt := 34) E dX8_savingOfExtra_10 (by decide) (by omega) (fun c3 => ?_) (fun c3 => ?_)
  · skip
    refine lv_iconst (v := iI 0) Ex Eb dX8_savingOfExtra_34 rfl ?_
    exact lo_iret E hRt hLk hK hAe hw dX8_savingOfExtra_35 rfl ⟨uI M 0 t2, g, 0, (by first | exact sameP_t | exact ((sameP_w (ahM_same _ w i)).tr (sameP_s q58_0)).tr (sameP_s (ahM_same _ _ i))), (by first | (refine Or.inl ⟨(sameW_0 (ahM_same _ _ i)).trans ((sameW_0 q58_0).trans ((sameW_0 (ahM_same _ w i)).trans (uI_s.trans (by omega)))), by omega, by omega, Or.inl ⟨by omega, by omega, ?_⟩⟩; rw [(ahM_120 hLi).2.2.1, (ahM_120 hLu2).2.2.1]; rfl) | (simp only [uI_s, and_true]; omega)), rfl, rfl⟩
  · skip
    refine lv_aload_n Ex Eb dX8_savingOfExtra_13 rfl (lv_at hl 0 rfl) ?_
    refine lv_iload_n Ex Eb dX8_savingOfExtra_14 rfl (lv_at hl 2 rfl) ?_
    refine lv_iconst (v := iI 1) Ex Eb dX8_savingOfExtra_15 rfl ?_
    refine lo_ldc (z := 9999999) E hc154 dX8_savingOfExtra_16 rfl ?_
    refine lv_iconst (v := iI 2) Ex Eb dX8_savingOfExtra_18 rfl ?_
    refine lo_callV (q0 := 0) (rest := []) E hK hw (kX8_outside l X d (uI M 0 t2) a 1 9999999 2 (by omega) (by omega) (by omega)) (cwV 4 E.2.2.2.2 gX8_savingOfExtra_X8_outside rfl rfl rfl (by decide +kernel) ⟨Nat.le_of_ble_eq_true rfl, Nat.le_of_ble_eq_true rfl⟩) rfl rfl [0] rfl (by decide) hl.1 rfl rfl (Nat.le_of_ble_eq_true rfl) dX8_savingOfExtra_19 ⟨Nat.le_of_ble_eq_true rfl, Nat.le_of_ble_eq_true rfl⟩ (fun v w1 H locs hq hw => ?_)
    obtain ⟨z4, t5, q19_0, rfl, rfl⟩ := hq
    change (z4 = 0 ∧ t5 = t2 ∧ 1 ≤ a ∧ a ≤ 9999999) ∨ (z4 = 1 ∧ t5 = 2 ∧ ¬ (1 ≤ a ∧ a ≤ 9999999)) at q19_0
    have hw : lo_Wd X ([oX8 (d 0) t5 (d 1) (d 2) (M 3) (d 3) (M 5) (d 4) (d 5) (d 6) (M 9) (d 7) (M 11) (M 12) (M 13) (M 14) (M 15) (M 16) (M 17) (M 18) (M 19) (M 20) (M 21) (M 22) (M 23) (M 24) (M 25) (M 26) (M 27) (M 28), arI X (d 1) 122 w, arI X (d 5) 122 g]) A9 s9.heap H locs := hw
    refine W.eq (g2 := F0 m9 22 ls [.int (iI z4)]) rfl ?_
    refine lo_if_ne (tgt := 34) E dX8_savingOfExtra_22 (by decide) (by omega) (fun c6 => ?_) (fun c6 => ?_)
    · skip
      refine lv_iconst (v := iI 0) Ex Eb dX8_savingOfExtra_34 rfl ?_
      exact lo_iret E hRt hLk hK hAe hw dX8_savingOfExtra_35 rfl ⟨uI M 0 t5, g, 0, (by first | exact sameP_t | exact ((sameP_w (ahM_same _ w i)).tr (sameP_s q58_0)).tr (sameP_s (ahM_same _ _ i))), (by first | (refine Or.inl ⟨(sameW_0 (ahM_same _ _ i)).trans ((sameW_0 q58_0).trans ((sameW_0 (ahM_same _ w i)).trans (uI_s.trans (by omega)))), by omega, by omega, Or.inl ⟨by omega, by omega, ?_⟩⟩; rw [(ahM_120 hLi).2.2.1, (ahM_120 hLu2).2.2.1]; rfl) | (simp only [uI_s, and_true]; omega)), rfl, rfl⟩
    · skip
      have hLi := hL i (by omega) (by omega)
      have hW1 := WI_1 hWI (i := i) (by omega) (by omega)
      have hc5 : 0 ≤ wOf w i 5 ∧ wOf w i 5 < 120000 := hLi.2.2.1
      have hi4 : 0 ≤ wOf w i 4 ∧ wOf w i 4 ≤ 10249999 := hLi.2.2.2.2.1
      refine lv_aload_n Ex Eb dX8_savingOfExtra_25 rfl (lv_at hl 0 rfl) ?_
      refine lv_iload_n Ex Eb dX8_savingOfExtra_26 rfl (lv_at hl 1 rfl) ?_
      refine lv_iload_n Ex Eb dX8_savingOfExtra_27 rfl (lv_at hl 2 rfl) ?_
      refine lo_callV (q0 := 0) (rest := []) E hK hw (kX8_cannotPayExtra l X d (uI M 0 t5) w i a (by omega) (hLi) (by omega)) (cwV 2 E.2.2.2.2 gX8_savingOfExtra_X8_cannotPayExtra rfl rfl rfl (by decide +kernel) ⟨Nat.le_of_ble_eq_true rfl, Nat.le_of_ble_eq_true rfl⟩) rfl rfl [0, 1] rfl (by decide) hl.1 rfl rfl (Nat.le_of_ble_eq_true rfl) dX8_savingOfExtra_28 ⟨Nat.le_of_ble_eq_true rfl, Nat.le_of_ble_eq_true rfl⟩ (fun v w1 H locs hq hw => ?_)
      obtain ⟨z7, q28_0, rfl, rfl⟩ := hq
      have hw : lo_Wd X ([oX8 (d 0) t5 (d 1) (d 2) (M 3) (d 3) (M 5) (d 4) (d 5) (d 6) (M 9) (d 7) (M 11) (M 12) (M 13) (M 14) (M 15) (M 16) (M 17) (M 18) (M 19) (M 20) (M 21) (M 22) (M 23) (M 24) (M 25) (M 26) (M 27) (M 28), arI X (d 1) 122 w, arI X (d 5) 122 g]) A9 s9.heap H locs := hw
      refine W.eq (g2 := F0 m9 31 ls [.int (iI z7)]) rfl ?_
      refine lo_if_eq (tgt := 36) E dX8_savingOfExtra_31 (by decide) (by omega) (fun c8 => ?_) (fun c8 => ?_)
      · skip
        have hLu := (wRed_WI (kp := kp) hWI (i := i) (a := a) (by omega) (by omega) (by omega) (by omega) (by omega))
        have hLu2 := hLu.1.2.2 i (by omega) (by omega)
        refine lv_aload_n Ex Eb dX8_savingOfExtra_36 rfl (lv_at hl 0 rfl) ?_
        refine lo_get E hK hw huRX8 1 hf9 rfl 0 rfl rfl (by decide) (v := .ref (d 1)) rfl dX8_savingOfExtra_37 ?_
        refine lv_aload_n Ex Eb dX8_savingOfExtra_40 rfl (lv_at hl 0 rfl) ?_
        refine lo_get E hK hw huRX8 7 hf24 rfl 0 rfl rfl (by decide) (v := .ref (d 5)) rfl dX8_savingOfExtra_41 ?_
        refine lo_callS (rest := []) E hK hw (kX8_copy l X (d 1) (d 5) w g ) (cwS 2 E.2.2.2.2 gX8_savingOfExtra_X8_copy rfl rfl rfl (by decide +kernel) ⟨Nat.le_of_ble_eq_true rfl, Nat.le_of_ble_eq_true rfl⟩) [1, 2] rfl (by decide) hl.1 rfl rfl (Nat.le_of_ble_eq_true rfl) dX8_savingOfExtra_44 ⟨Nat.le_of_ble_eq_true rfl, Nat.le_of_ble_eq_true rfl⟩ (fun v w1 H locs hq hw => ?_)
        obtain ⟨rfl, rfl⟩ := hq
        have hw : lo_Wd X ([oX8 (d 0) t5 (d 1) (d 2) (M 3) (d 3) (M 5) (d 4) (d 5) (d 6) (M 9) (d 7) (M 11) (M 12) (M 13) (M 14) (M 15) (M 16) (M 17) (M 18) (M 19) (M 20) (M 21) (M 22) (M 23) (M 24) (M 25) (M 26) (M 27) (M 28), arI X (d 1) 122 w, arI X (d 5) 122 w]) A9 s9.heap H locs := hw
        refine W.eq (g2 := F0 m9 47 ls []) rfl ?_
        refine lv_aload_n Ex Eb dX8_savingOfExtra_47 rfl (lv_at hl 0 rfl) ?_
        refine lv_iload_n Ex Eb dX8_savingOfExtra_48 rfl (lv_at hl 1 rfl) ?_
        refine lo_callV (q0 := 0) (rest := []) E hK hw (kX8_costAhead l X d (uI M 0 t5) w i (by omega) (hLi)) (cwV 1 E.2.2.2.2 gX8_savingOfExtra_X8_costAhead rfl rfl rfl (by decide +kernel) ⟨Nat.le_of_ble_eq_true rfl, Nat.le_of_ble_eq_true rfl⟩) rfl rfl [0, 1] rfl (by decide) hl.1 rfl rfl (Nat.le_of_ble_eq_true rfl) dX8_savingOfExtra_49 ⟨Nat.le_of_ble_eq_true rfl, Nat.le_of_ble_eq_true rfl⟩ (fun v w1 H locs hq hw => ?_)
        obtain ⟨rfl, rfl⟩ := hq
        have hw : lo_Wd X ([oX8 (d 0) (ahM (uI M 0 t5) w i 0) (d 1) (d 2) (ahM (uI M 0 t5) w i 3) (d 3) (ahM (uI M 0 t5) w i 5) (d 4) (d 5) (d 6) (ahM (uI M 0 t5) w i 9) (d 7) (ahM (uI M 0 t5) w i 11) (ahM (uI M 0 t5) w i 12) (ahM (uI M 0 t5) w i 13) (ahM (uI M 0 t5) w i 14) (ahM (uI M 0 t5) w i 15) (ahM (uI M 0 t5) w i 16) (ahM (uI M 0 t5) w i 17) (ahM (uI M 0 t5) w i 18) (ahM (uI M 0 t5) w i 19) (ahM (uI M 0 t5) w i 20) (ahM (uI M 0 t5) w i 21) (ahM (uI M 0 t5) w i 22) (ahM (uI M 0 t5) w i 23) (ahM (uI M 0 t5) w i 24) (ahM (uI M 0 t5) w i 25) (ahM (uI M 0 t5) w i 26) (ahM (uI M 0 t5) w i 27) (ahM (uI M 0 t5) w i 28), arI X (d 1) 122 w, arI X (d 5) 122 w]) A9 s9.heap H locs := hw
        refine W.eq (g2 := F0 m9 52 ls [.int (iI (ahM (uI M 0 t5) w i 17))]) rfl ?_
        refine lv_istore (lv' := [(4, .int (iI (ahM (uI M 0 t5) w i 17))), (0, .ref (d 0)), (1, .int (iI i)), (2, .int (iI a)), (3, .int (iI kp))]) Ex Eb dX8_savingOfExtra_52 hl (by decide) rfl (fun ls hl => ?_)
        refine lv_aload_n Ex Eb dX8_savingOfExtra_54 rfl (lv_at hl 1 rfl) ?_
        refine lv_iload_n Ex Eb dX8_savingOfExtra_55 rfl (lv_at hl 2 rfl) ?_
        refine lv_iload_n Ex Eb dX8_savingOfExtra_56 rfl (lv_at hl 3 rfl) ?_
        refine lv_iload_n Ex Eb dX8_savingOfExtra_57 rfl (lv_at hl 4 rfl) ?_
        refine lo_callV (q0 := 0) (rest := []) E hK hw (kX8_extra l X d (ahM (uI M 0 t5) w i) w i a kp (by omega) (hLi) (by omega) (by omega) (hkp) (by omega)) (cwV 3 E.2.2.2.2 gX8_savingOfExtra_X8_extra rfl rfl rfl (by decide +kernel) ⟨Nat.le_of_ble_eq_true rfl, Nat.le_of_ble_eq_true rfl⟩) rfl rfl [0, 1] rfl (by decide) hl.1 rfl rfl (Nat.le_of_ble_eq_true rfl) dX8_savingOfExtra_58 ⟨Nat.le_of_ble_eq_true rfl, Nat.le_of_ble_eq_true rfl⟩ (fun v w1 H locs hq hw => ?_)
        obtain ⟨N9, q58_0, rfl, rfl⟩ := hq
        have hw : lo_Wd X ([oX8 (d 0) (N9 0) (d 1) (d 2) (N9 3) (d 3) (N9 5) (d 4) (d 5) (d 6) (N9 9) (d 7) (N9 11) (N9 12) (N9 13) (N9 14) (N9 15) (N9 16) (N9 17) (N9 18) (N9 19) (N9 20) (N9 21) (N9 22) (N9 23) (N9 24) (N9 25) (N9 26) (N9 27) (N9 28), arI X (d 1) 122 (wRed w i a kp), arI X (d 5) 122 w]) A9 s9.heap H locs := hw
        refine W.eq (g2 := F0 m9 61 ls []) rfl ?_
        refine lv_aload_n Ex Eb dX8_savingOfExtra_61 rfl (lv_at hl 1 rfl) ?_
        refine lv_iload_n Ex Eb dX8_savingOfExtra_62 rfl (lv_at hl 2 rfl) ?_
        refine lo_callV (q0 := 0) (rest := []) E hK hw (kX8_costAhead l X d N9 (wRed w i a kp) i (by omega) (hLu2)) (cwV 1 E.2.2.2.2 gX8_savingOfExtra_X8_costAhead rfl rfl rfl (by decide +kernel) ⟨Nat.le_of_ble_eq_true rfl, Nat.le_of_ble_eq_true rfl⟩) rfl rfl [0, 1] rfl (by decide) hl.1 rfl rfl (Nat.le_of_ble_eq_true rfl) dX8_savingOfExtra_63 ⟨Nat.le_of_ble_eq_true rfl, Nat.le_of_ble_eq_true rfl⟩ (fun v w1 H locs hq hw => ?_)
        obtain ⟨rfl, rfl⟩ := hq
        have hw : lo_Wd X ([oX8 (d 0) (ahM N9 (wRed w i a kp) i 0) (d 1) (d 2) (ahM N9 (wRed w i a kp) i 3) (d 3) (ahM N9 (wRed w i a kp) i 5) (d 4) (d 5) (d 6) (ahM N9 (wRed w i a kp) i 9) (d 7) (ahM N9 (wRed w i a kp) i 11) (ahM N9 (wRed w i a kp) i 12) (ahM N9 (wRed w i a kp) i 13) (ahM N9 (wRed w i a kp) i 14) (ahM N9 (wRed w i a kp) i 15) (ahM N9 (wRed w i a kp) i 16) (ahM N9 (wRed w i a kp) i 17) (ahM N9 (wRed w i a kp) i 18) (ahM N9 (wRed w i a kp) i 19) (ahM N9 (wRed w i a kp) i 20) (ahM N9 (wRed w i a kp) i 21) (ahM N9 (wRed w i a kp) i 22) (ahM N9 (wRed w i a kp) i 23) (ahM N9 (wRed w i a kp) i 24) (ahM N9 (wRed w i a kp) i 25) (ahM N9 (wRed w i a kp) i 26) (ahM N9 (wRed w i a kp) i 27) (ahM N9 (wRed w i a kp) i 28), arI X (d 1) 122 (wRed w i a kp), arI X (d 5) 122 w]) A9 s9.heap H locs := hw
        refine W.eq (g2 := F0 m9 66 ls [.int (iI (ahM N9 (wRed w i a kp) i 17))]) rfl ?_
        refine lv_istore (lv' := [(5, .int (iI (ahM N9 (wRed w i a kp) i 17))), (4, .int (iI (ahM (uI M 0 t5) w i 17))), (0, .ref (d 0)), (1, .int (iI i)), (2, .int (iI a)), (3, .int (iI kp))]) Ex Eb dX8_savingOfExtra_66 hl (by decide) rfl (fun ls hl => ?_)
        refine lv_aload_n Ex Eb dX8_savingOfExtra_68 rfl (lv_at hl 2 rfl) ?_
        refine lo_get E hK hw huRX8 7 hf24 rfl 0 rfl rfl (by decide) (v := .ref (d 5)) rfl dX8_savingOfExtra_69 ?_
        refine lv_aload_n Ex Eb dX8_savingOfExtra_72 rfl (lv_at hl 2 rfl) ?_
        refine lo_get E hK hw huRX8 1 hf9 rfl 0 rfl rfl (by decide) (v := .ref (d 1)) rfl dX8_savingOfExtra_73 ?_
        refine lo_callS (rest := []) E hK hw (kX8_copy l X (d 5) (d 1) w (wRed w i a kp) ) (cwS 2 E.2.2.2.2 gX8_savingOfExtra_X8_copy rfl rfl rfl (by decide +kernel) ⟨Nat.le_of_ble_eq_true rfl, Nat.le_of_ble_eq_true rfl⟩) [2, 1] rfl (by decide) hl.1 rfl rfl (Nat.le_of_ble_eq_true rfl) dX8_savingOfExtra_76 ⟨Nat.le_of_ble_eq_true rfl, Nat.le_of_ble_eq_true rfl⟩ (fun v w1 H locs hq hw => ?_)
        obtain ⟨rfl, rfl⟩ := hq
        have hw : lo_Wd X ([oX8 (d 0) (ahM N9 (wRed w i a kp) i 0) (d 1) (d 2) (ahM N9 (wRed w i a kp) i 3) (d 3) (ahM N9 (wRed w i a kp) i 5) (d 4) (d 5) (d 6) (ahM N9 (wRed w i a kp) i 9) (d 7) (ahM N9 (wRed w i a kp) i 11) (ahM N9 (wRed w i a kp) i 12) (ahM N9 (wRed w i a kp) i 13) (ahM N9 (wRed w i a kp) i 14) (ahM N9 (wRed w i a kp) i 15) (ahM N9 (wRed w i a kp) i 16) (ahM N9 (wRed w i a kp) i 17) (ahM N9 (wRed w i a kp) i 18) (ahM N9 (wRed w i a kp) i 19) (ahM N9 (wRed w i a kp) i 20) (ahM N9 (wRed w i a kp) i 21) (ahM N9 (wRed w i a kp) i 22) (ahM N9 (wRed w i a kp) i 23) (ahM N9 (wRed w i a kp) i 24) (ahM N9 (wRed w i a kp) i 25) (ahM N9 (wRed w i a kp) i 26) (ahM N9 (wRed w i a kp) i 27) (ahM N9 (wRed w i a kp) i 28), arI X (d 1) 122 w, arI X (d 5) 122 w]) A9 s9.heap H locs := hw
        refine W.eq (g2 := F0 m9 79 ls []) rfl ?_
        refine lv_iload Ex Eb dX8_savingOfExtra_79 (lv_at hl 1 rfl) ?_
        refine lv_iload Ex Eb dX8_savingOfExtra_81 (lv_at hl 0 rfl) ?_
        refine lo_isub E dX8_savingOfExtra_83 ?_
        exact lo_iret E hRt hLk hK hAe hw dX8_savingOfExtra_84 rfl ⟨ahM N9 (wRed w i a kp) i, w, ahM (uI M 0 t5) w i 17 - ahM N9 (wRed w i a kp) i 17, (by first | exact sameP_t | exact ((sameP_w (ahM_same _ w i)).tr (sameP_s q58_0)).tr (sameP_s (ahM_same _ _ i))), (by first | (refine Or.inl ⟨(sameW_0 (ahM_same _ _ i)).trans ((sameW_0 q58_0).trans ((sameW_0 (ahM_same _ w i)).trans (uI_s.trans (by omega)))), by omega, by omega, Or.inl ⟨by omega, by omega, ?_⟩⟩; rw [(ahM_120 hLi).2.2.1, (ahM_120 hLu2).2.2.1]; rfl) | (simp only [uI_s, and_true]; omega)), rfl, rfl⟩
      · skip
        refine lv_iconst (v := iI 0) Ex Eb dX8_savingOfExtra_34 rfl ?_
        exact lo_iret E hRt hLk hK hAe hw dX8_savingOfExtra_35 rfl ⟨uI M 0 t5, g, 0, (by first | exact sameP_t | exact ((sameP_w (ahM_same _ w i)).tr (sameP_s q58_0)).tr (sameP_s (ahM_same _ _ i))), (by first | (refine Or.inl ⟨(sameW_0 (ahM_same _ _ i)).trans ((sameW_0 q58_0).trans ((sameW_0 (ahM_same _ w i)).trans (uI_s.trans (by omega)))), by omega, by omega, Or.inl ⟨by omega, by omega, ?_⟩⟩; rw [(ahM_120 hLi).2.2.1, (ahM_120 hLu2).2.2.1]; rfl) | (simp only [uI_s, and_true]; omega)), rfl, rfl⟩
set_option maxHeartbeats 4000000 in
set_option maxRecDepth 100000 in
theorem kX8_interestIfRate (l : Launch) (X : KX) (d : Nat → Nat) (M w g : Nat → Int) (i a : Int) (hWI : WI w) (hi : i32 i) (ha : i32 a) : CM l X yX8_interestIfRate wsX8_interestIfRate ({ frames := 6, cells := 0, slots := 0, locals := 150 }) [.ref (d 0), .int (iI i), .int (iI a)] ([oX8 (d 0) (M 0) (d 1) (d 2) (M 3) (d 3) (M 5) (d 4) (d 5) (d 6) (M 9) (d 7) (M 11) (M 12) (M 13) (M 14) (M 15) (M 16) (M 17) (M 18) (M 19) (M 20) (M 21) (M 22) (M 23) (M 24) (M 25) (M 26) (M 27) (M 28), arI X (d 1) 122 w, arI X (d 5) 122 g]) (fun v9 w9 => ∃ N : Nat → Int, ∃ g9 : Nat → Int, ∃ r : Int, (sameP M N) ∧ ((N 0 = 0 ∧ (0 ≤ i ∧ i < w 0) ∧ (0 ≤ a ∧ a ≤ 3000) ∧ ((0 < wOf w i 1 ∧ r = (runL 120 (WL (wRate w i a) i) 6 - wOf (wRate w i a) i 6)) ∨ (wOf w i 1 ≤ 0 ∧ r = 0))) ∨ (N 0 = 1 ∧ ¬ (0 ≤ i ∧ i < w 0)) ∨ (N 0 = 2 ∧ (0 ≤ i ∧ i < w 0) ∧ ¬ (0 ≤ a ∧ a ≤ 3000))) ∧ v9 = some (.int (iI r)) ∧ w9 = [oX8 (d 0) (N 0) (d 1) (d 2) (N 3) (d 3) (N 5) (d 4) (d 5) (d 6) (N 9) (d 7) (N 11) (N 12) (N 13) (N 14) (N 15) (N 16) (N 17) (N 18) (N 19) (N 20) (N 21) (N 22) (N 23) (N 24) (N 25) (N 26) (N 27) (N 28), arI X (d 1) 122 w, arI X (d 5) 122 g9]) 0 0 := by
  refine lo_enter (cc := cX8_interestIfRate) (maxL := 4) (ret := (some .int)) (lv := [(0, .ref (d 0)), (1, .int (iI i)), (2, .int (iI a))]) (by decide) rfl rfl (Nat.le_of_ble_eq_true rfl) ?_
  intro p9 e9 s9 m9 bl9 me9 c9 A9 ls hAe E hRt hLk hK hl hw
  have Ex := E.1
  have Eb := E.2.1
  have huRX8 : ∀ w ∈ u_ws RX8 TX8 29, w ∈ wsX8_interestIfRate := by decide +kernel
  have hf56 : (Cond.fieldLink RX8 56 "LoanScheduleModel" "thrown" "I").before _ s9 = true := E.2.2.2.2 _ (List.mem_of_getElem? (i := 1) rfl)
  have hf9 : (Cond.fieldLink RX8 9 "LoanScheduleModel" "w" "[I").before _ s9 = true := E.2.2.2.2 _ (List.mem_of_getElem? (i := 2) rfl)
  have hf24 : (Cond.fieldLink RX8 24 "LoanScheduleModel" "aside" "[I").before _ s9 = true := E.2.2.2.2 _ (List.mem_of_getElem? (i := 3) rfl)
  obtain ⟨⟨hn0, hn1⟩, ⟨hb0, hb1⟩, hL⟩ := id hWI
  refine lv_aload_n Ex Eb dX8_interestIfRate_0 rfl (lv_at hl 0 rfl) ?_
  refine lv_iconst (v := iI 0) Ex Eb dX8_interestIfRate_1 rfl ?_
  refine lo_put E hK hw huRX8 tyX8 tyX8_ok nmX8 0 hf56 rfl 0 rfl rfl (by decide) rfl rfl rfl rfl (Nat.le_of_ble_eq_true rfl) (ws' := [oX8 (d 0) 0 (d 1) (d 2) (M 3) (d 3) (M 5) (d 4) (d 5) (d 6) (M 9) (d 7) (M 11) (M 12) (M 13) (M 14) (M 15) (M 16) (M 17) (M 18) (M 19) (M 20) (M 21) (M 22) (M 23) (M 24) (M 25) (M 26) (M 27) (M 28), arI X (d 1) 122 w, arI X (d 5) 122 g]) rfl dX8_interestIfRate_2 (fun H locs hw => ?_)
  refine lv_aload_n Ex Eb dX8_interestIfRate_5 rfl (lv_at hl 0 rfl) ?_
  refine lv_iload_n Ex Eb dX8_interestIfRate_6 rfl (lv_at hl 1 rfl) ?_
  refine lo_callV (q0 := 0) (rest := []) E hK hw (kX8_noLoan l X d (uI M 0 0) w i (hWI) (by omega)) (cwV 1 E.2.2.2.2 gX8_interestIfRate_X8_noLoan rfl rfl rfl (by decide +kernel) ⟨Nat.le_of_ble_eq_true rfl, Nat.le_of_ble_eq_true rfl⟩) rfl rfl [0, 1] rfl (by decide) hl.1 rfl rfl (Nat.le_of_ble_eq_true rfl) dX8_interestIfRate_7 ⟨Nat.le_of_ble_eq_true rfl, Nat.le_of_ble_eq_true rfl⟩ (fun v w1 H locs hq hw => ?_)
  obtain ⟨z1, t2, q7_0, rfl, rfl⟩ := hq
  change (z1 = 0 ∧ t2 = 0 ∧ 0 ≤ i ∧ i < w 0) ∨ (z1 = 1 ∧ t2 = 1 ∧ ¬ (0 ≤ i ∧ i < w 0)) at q7_0
  have hw : lo_Wd X ([oX8 (d 0) t2 (d 1) (d 2) (M 3) (d 3) (M 5) (d 4) (d 5) (d 6) (M 9) (d 7) (M 11) (M 12) (M 13) (M 14) (M 15) (M 16) (M 17) (M 18) (M 19) (M 20) (M 21) (M 22) (M 23) (M 24) (M 25) (M 26) (M 27) (M 28), arI X (d 1) 122 w, arI X (d 5) 122 g]) A9 s9.heap H locs := hw
  refine W.eq (g2 := F0 m9 10 ls [.int (iI z1)]) rfl ?_
  refine lo_if_ne (tgt := 34) E dX8_interestIfRate_10 (by decide) (by omega) (fun c3 => ?_) (fun c3 => ?_)
  · skip
    refine lv_iconst (v := iI 0) Ex Eb dX8_interestIfRate_34 rfl ?_
    exact lo_iret E hRt hLk hK hAe hw dX8_interestIfRate_35 rfl ⟨uI M 0 t2, g, 0, (by first | exact sameP_t | exact (sameP_w q50_0).tr (sameP_s (ahM_same _ _ i))), (by first | (refine Or.inl ⟨(sameW_0 (ahM_same _ _ i)).trans ((sameW_0 q50_0).trans (uI_s.trans (by omega))), by omega, by omega, Or.inl ⟨by omega, ?_⟩⟩; rw [(ahM_120 hLu2).2.2.1]; rfl) | (simp only [uI_s, and_true]; omega)), rfl, rfl⟩
  · skip
    refine lv_aload_n Ex Eb dX8_interestIfRate_13 rfl (lv_at hl 0 rfl) ?_
    refine lv_iload_n Ex Eb dX8_interestIfRate_14 rfl (lv_at hl 2 rfl) ?_
    refine lv_iconst (v := iI 0) Ex Eb dX8_interestIfRate_15 rfl ?_
    refine lv_sipush (v := iI 3000) Ex Eb dX8_interestIfRate_16 rfl ?_
    refine lv_iconst (v := iI 2) Ex Eb dX8_interestIfRate_19 rfl ?_
    refine lo_callV (q0 := 0) (rest := []) E hK hw (kX8_outside l X d (uI M 0 t2) a 0 3000 2 (by omega) (by omega) (by omega)) (cwV 4 E.2.2.2.2 gX8_interestIfRate_X8_outside rfl rfl rfl (by decide +kernel) ⟨Nat.le_of_ble_eq_true rfl, Nat.le_of_ble_eq_true rfl⟩) rfl rfl [0] rfl (by decide) hl.1 rfl rfl (Nat.le_of_ble_eq_true rfl) dX8_interestIfRate_20 ⟨Nat.le_of_ble_eq_true rfl, Nat.le_of_ble_eq_true rfl⟩ (fun v w1 H locs hq hw => ?_)
    obtain ⟨z4, t5, q20_0, rfl, rfl⟩ := hq
    change (z4 = 0 ∧ t5 = t2 ∧ 0 ≤ a ∧ a ≤ 3000) ∨ (z4 = 1 ∧ t5 = 2 ∧ ¬ (0 ≤ a ∧ a ≤ 3000)) at q20_0
    have hw : lo_Wd X ([oX8 (d 0) t5 (d 1) (d 2) (M 3) (d 3) (M 5) (d 4) (d 5) (d 6) (M 9) (d 7) (M 11) (M 12) (M 13) (M 14) (M 15) (M 16) (M 17) (M 18) (M 19) (M 20) (M 21) (M 22) (M 23) (M 24) (M 25) (M 26) (M 27) (M 28), arI X (d 1) 122 w, arI X (d 5) 122 g]) A9 s9.heap H locs := hw
    refine W.eq (g2 := F0 m9 23 ls [.int (iI z4)]) rfl ?_
    refine lo_if_ne (tgt := 34) E dX8_interestIfRate_23 (by decide) (by omega) (fun c6 => ?_) (fun c6 => ?_)
    · skip
      refine lv_iconst (v := iI 0) Ex Eb dX8_interestIfRate_34 rfl ?_
      exact lo_iret E hRt hLk hK hAe hw dX8_interestIfRate_35 rfl ⟨uI M 0 t5, g, 0, (by first | exact sameP_t | exact (sameP_w q50_0).tr (sameP_s (ahM_same _ _ i))), (by first | (refine Or.inl ⟨(sameW_0 (ahM_same _ _ i)).trans ((sameW_0 q50_0).trans (uI_s.trans (by omega))), by omega, by omega, Or.inl ⟨by omega, ?_⟩⟩; rw [(ahM_120 hLu2).2.2.1]; rfl) | (simp only [uI_s, and_true]; omega)), rfl, rfl⟩
    · skip
      have hLi := hL i (by omega) (by omega)
      have hW1 := WI_1 hWI (i := i) (by omega) (by omega)
      have hc5 : 0 ≤ wOf w i 5 ∧ wOf w i 5 < 120000 := hLi.2.2.1
      have hi4 : 0 ≤ wOf w i 4 ∧ wOf w i 4 ≤ 10249999 := hLi.2.2.2.2.1
      refine lv_aload_n Ex Eb dX8_interestIfRate_26 rfl (lv_at hl 0 rfl) ?_
      refine lv_iload_n Ex Eb dX8_interestIfRate_27 rfl (lv_at hl 1 rfl) ?_
      refine lo_callV (q0 := 0) (rest := []) E hK hw (kX8_isRunning l X d (uI M 0 t5) w i (by omega) (by omega)) (cwV 1 E.2.2.2.2 gX8_interestIfRate_X8_isRunning rfl rfl rfl (by decide +kernel) ⟨Nat.le_of_ble_eq_true rfl, Nat.le_of_ble_eq_true rfl⟩) rfl rfl [0, 1] rfl (by decide) hl.1 rfl rfl (Nat.le_of_ble_eq_true rfl) dX8_interestIfRate_28 ⟨Nat.le_of_ble_eq_true rfl, Nat.le_of_ble_eq_true rfl⟩ (fun v w1 H locs hq hw => ?_)
      obtain ⟨r7, q28_0, rfl, rfl⟩ := hq
      have hw : lo_Wd X ([oX8 (d 0) t5 (d 1) (d 2) (M 3) (d 3) (M 5) (d 4) (d 5) (d 6) (M 9) (d 7) (M 11) (M 12) (M 13) (M 14) (M 15) (M 16) (M 17) (M 18) (M 19) (M 20) (M 21) (M 22) (M 23) (M 24) (M 25) (M 26) (M 27) (M 28), arI X (d 1) 122 w, arI X (d 5) 122 g]) A9 s9.heap H locs := hw
      refine W.eq (g2 := F0 m9 31 ls [.int (iI r7)]) rfl ?_
      refine lo_if_ne (tgt := 36) E dX8_interestIfRate_31 (by decide) (by omega) (fun c8 => ?_) (fun c8 => ?_)
      · skip
        have hLu2 := WR_LI (wRate_R (w := w) (i := i) (r := a) (by omega)) (setL_LI hLi (by show 0 < wOf w i 1; omega) (by omega) (by omega) (hLi.2.2.2.2.2.2.1 (by show 0 < wOf w i 1; omega)).1 hLi.2.2.2.1.2)
        refine lv_aload_n Ex Eb dX8_interestIfRate_36 rfl (lv_at hl 0 rfl) ?_
        refine lo_get E hK hw huRX8 1 hf9 rfl 0 rfl rfl (by decide) (v := .ref (d 1)) rfl dX8_interestIfRate_37 ?_
        refine lv_aload_n Ex Eb dX8_interestIfRate_40 rfl (lv_at hl 0 rfl) ?_
        refine lo_get E hK hw huRX8 7 hf24 rfl 0 rfl rfl (by decide) (v := .ref (d 5)) rfl dX8_interestIfRate_41 ?_
        refine lo_callS (rest := []) E hK hw (kX8_copy l X (d 1) (d 5) w g ) (cwS 2 E.2.2.2.2 gX8_interestIfRate_X8_copy rfl rfl rfl (by decide +kernel) ⟨Nat.le_of_ble_eq_true rfl, Nat.le_of_ble_eq_true rfl⟩) [1, 2] rfl (by decide) hl.1 rfl rfl (Nat.le_of_ble_eq_true rfl) dX8_interestIfRate_44 ⟨Nat.le_of_ble_eq_true rfl, Nat.le_of_ble_eq_true rfl⟩ (fun v w1 H locs hq hw => ?_)
        obtain ⟨rfl, rfl⟩ := hq
        have hw : lo_Wd X ([oX8 (d 0) t5 (d 1) (d 2) (M 3) (d 3) (M 5) (d 4) (d 5) (d 6) (M 9) (d 7) (M 11) (M 12) (M 13) (M 14) (M 15) (M 16) (M 17) (M 18) (M 19) (M 20) (M 21) (M 22) (M 23) (M 24) (M 25) (M 26) (M 27) (M 28), arI X (d 1) 122 w, arI X (d 5) 122 w]) A9 s9.heap H locs := hw
        refine W.eq (g2 := F0 m9 47 ls []) rfl ?_
        refine lv_aload_n Ex Eb dX8_interestIfRate_47 rfl (lv_at hl 0 rfl) ?_
        refine lv_iload_n Ex Eb dX8_interestIfRate_48 rfl (lv_at hl 1 rfl) ?_
        refine lv_iload_n Ex Eb dX8_interestIfRate_49 rfl (lv_at hl 2 rfl) ?_
        refine lo_callV (q0 := 0) (rest := []) E hK hw (kX8_setRate l X d (uI M 0 t5) w i a (by omega) (hLi) (by omega) (by omega)) (cwV 2 E.2.2.2.2 gX8_interestIfRate_X8_setRate rfl rfl rfl (by decide +kernel) ⟨Nat.le_of_ble_eq_true rfl, Nat.le_of_ble_eq_true rfl⟩) rfl rfl [0, 1] rfl (by decide) hl.1 rfl rfl (Nat.le_of_ble_eq_true rfl) dX8_interestIfRate_50 ⟨Nat.le_of_ble_eq_true rfl, Nat.le_of_ble_eq_true rfl⟩ (fun v w1 H locs hq hw => ?_)
        obtain ⟨N9, q50_0, rfl, rfl⟩ := hq
        have hw : lo_Wd X ([oX8 (d 0) (N9 0) (d 1) (d 2) (N9 3) (d 3) (N9 5) (d 4) (d 5) (d 6) (N9 9) (d 7) (N9 11) (N9 12) (N9 13) (N9 14) (N9 15) (N9 16) (N9 17) (N9 18) (N9 19) (N9 20) (N9 21) (N9 22) (N9 23) (N9 24) (N9 25) (N9 26) (N9 27) (N9 28), arI X (d 1) 122 (wRate w i a), arI X (d 5) 122 w]) A9 s9.heap H locs := hw
        refine W.eq (g2 := F0 m9 53 ls []) rfl ?_
        refine lv_aload_n Ex Eb dX8_interestIfRate_53 rfl (lv_at hl 0 rfl) ?_
        refine lv_iload_n Ex Eb dX8_interestIfRate_54 rfl (lv_at hl 1 rfl) ?_
        refine lo_callV (q0 := 0) (rest := []) E hK hw (kX8_costAhead l X d N9 (wRate w i a) i (by omega) (hLu2)) (cwV 1 E.2.2.2.2 gX8_interestIfRate_X8_costAhead rfl rfl rfl (by decide +kernel) ⟨Nat.le_of_ble_eq_true rfl, Nat.le_of_ble_eq_true rfl⟩) rfl rfl [0, 1] rfl (by decide) hl.1 rfl rfl (Nat.le_of_ble_eq_true rfl) dX8_interestIfRate_55 ⟨Nat.le_of_ble_eq_true rfl, Nat.le_of_ble_eq_true rfl⟩ (fun v w1 H locs hq hw => ?_)
        obtain ⟨rfl, rfl⟩ := hq
        have hw : lo_Wd X ([oX8 (d 0) (ahM N9 (wRate w i a) i 0) (d 1) (d 2) (ahM N9 (wRate w i a) i 3) (d 3) (ahM N9 (wRate w i a) i 5) (d 4) (d 5) (d 6) (ahM N9 (wRate w i a) i 9) (d 7) (ahM N9 (wRate w i a) i 11) (ahM N9 (wRate w i a) i 12) (ahM N9 (wRate w i a) i 13) (ahM N9 (wRate w i a) i 14) (ahM N9 (wRate w i a) i 15) (ahM N9 (wRate w i a) i 16) (ahM N9 (wRate w i a) i 17) (ahM N9 (wRate w i a) i 18) (ahM N9 (wRate w i a) i 19) (ahM N9 (wRate w i a) i 20) (ahM N9 (wRate w i a) i 21) (ahM N9 (wRate w i a) i 22) (ahM N9 (wRate w i a) i 23) (ahM N9 (wRate w i a) i 24) (ahM N9 (wRate w i a) i 25) (ahM N9 (wRate w i a) i 26) (ahM N9 (wRate w i a) i 27) (ahM N9 (wRate w i a) i 28), arI X (d 1) 122 (wRate w i a), arI X (d 5) 122 w]) A9 s9.heap H locs := hw
        refine W.eq (g2 := F0 m9 58 ls [.int (iI (ahM N9 (wRate w i a) i 17))]) rfl ?_
        refine lv_istore_n (lv' := [(3, .int (iI (ahM N9 (wRate w i a) i 17))), (0, .ref (d 0)), (1, .int (iI i)), (2, .int (iI a))]) Ex Eb dX8_interestIfRate_58 rfl hl (by decide) rfl (fun ls hl => ?_)
        refine lv_aload_n Ex Eb dX8_interestIfRate_59 rfl (lv_at hl 1 rfl) ?_
        refine lo_get E hK hw huRX8 7 hf24 rfl 0 rfl rfl (by decide) (v := .ref (d 5)) rfl dX8_interestIfRate_60 ?_
        refine lv_aload_n Ex Eb dX8_interestIfRate_63 rfl (lv_at hl 1 rfl) ?_
        refine lo_get E hK hw huRX8 1 hf9 rfl 0 rfl rfl (by decide) (v := .ref (d 1)) rfl dX8_interestIfRate_64 ?_
        refine lo_callS (rest := []) E hK hw (kX8_copy l X (d 5) (d 1) w (wRate w i a) ) (cwS 2 E.2.2.2.2 gX8_interestIfRate_X8_copy rfl rfl rfl (by decide +kernel) ⟨Nat.le_of_ble_eq_true rfl, Nat.le_of_ble_eq_true rfl⟩) [2, 1] rfl (by decide) hl.1 rfl rfl (Nat.le_of_ble_eq_true rfl) dX8_interestIfRate_67 ⟨Nat.le_of_ble_eq_true rfl, Nat.le_of_ble_eq_true rfl⟩ (fun v w1 H locs hq hw => ?_)
        obtain ⟨rfl, rfl⟩ := hq
        have hw : lo_Wd X ([oX8 (d 0) (ahM N9 (wRate w i a) i 0) (d 1) (d 2) (ahM N9 (wRate w i a) i 3) (d 3) (ahM N9 (wRate w i a) i 5) (d 4) (d 5) (d 6) (ahM N9 (wRate w i a) i 9) (d 7) (ahM N9 (wRate w i a) i 11) (ahM N9 (wRate w i a) i 12) (ahM N9 (wRate w i a) i 13) (ahM N9 (wRate w i a) i 14) (ahM N9 (wRate w i a) i 15) (ahM N9 (wRate w i a) i 16) (ahM N9 (wRate w i a) i 17) (ahM N9 (wRate w i a) i 18) (ahM N9 (wRate w i a) i 19) (ahM N9 (wRate w i a) i 20) (ahM N9 (wRate w i a) i 21) (ahM N9 (wRate w i a) i 22) (ahM N9 (wRate w i a) i 23) (ahM N9 (wRate w i a) i 24) (ahM N9 (wRate w i a) i 25) (ahM N9 (wRate w i a) i 26) (ahM N9 (wRate w i a) i 27) (ahM N9 (wRate w i a) i 28), arI X (d 1) 122 w, arI X (d 5) 122 w]) A9 s9.heap H locs := hw
        refine W.eq (g2 := F0 m9 70 ls []) rfl ?_
        refine lv_iload_n Ex Eb dX8_interestIfRate_70 rfl (lv_at hl 0 rfl) ?_
        exact lo_iret E hRt hLk hK hAe hw dX8_interestIfRate_71 rfl ⟨ahM N9 (wRate w i a) i, w, ahM N9 (wRate w i a) i 17, (by first | exact sameP_t | exact (sameP_w q50_0).tr (sameP_s (ahM_same _ _ i))), (by first | (refine Or.inl ⟨(sameW_0 (ahM_same _ _ i)).trans ((sameW_0 q50_0).trans (uI_s.trans (by omega))), by omega, by omega, Or.inl ⟨by omega, ?_⟩⟩; rw [(ahM_120 hLu2).2.2.1]; rfl) | (simp only [uI_s, and_true]; omega)), rfl, rfl⟩
      · skip
        refine lv_iconst (v := iI 0) Ex Eb dX8_interestIfRate_34 rfl ?_
        exact lo_iret E hRt hLk hK hAe hw dX8_interestIfRate_35 rfl ⟨uI M 0 t5, g, 0, (by first | exact sameP_t | exact (sameP_w q50_0).tr (sameP_s (ahM_same _ _ i))), (by first | (refine Or.inl ⟨(sameW_0 (ahM_same _ _ i)).trans ((sameW_0 q50_0).trans (uI_s.trans (by omega))), by omega, by omega, Or.inl ⟨by omega, ?_⟩⟩; rw [(ahM_120 hLu2).2.2.1]; rfl) | (simp only [uI_s, and_true]; omega)), rfl, rfl⟩
