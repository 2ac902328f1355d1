set_option maxHeartbeats 4000000 in
set_option maxRecDepth 100000 in
theorem kX8_skipsWithin (l : Launch) (X : KX) (d : Nat → Nat) (M w g : Nat → Int) (i a : Int) (hWI : WI w) (hi : i32 i) (ha : i32 a) : CM l X yX8_skipsWithin wsX8_skipsWithin ({ frames := 6, cells := 0, slots := 0, locals := 150 }) [.ref (d 0), .int (iI i), .int (iI a)] ([oX8 (d 0) (M 0) (d 1) (d 2) (M 3) (d 3) (M 5) (d 4) (d 5) (d 6) (M 9) (d 7) (M 11) (M 12) (M 13) (M 14) (M 15) (M 16) (M 17) (M 18) (M 19) (M 20) (M 21) (M 22) (M 23) (M 24) (M 25) (M 26) (M 27) (M 28), arI X (d 1) 122 w, arI X (d 5) 122 g]) (fun v9 w9 => ∃ N : Nat → Int, ∃ g9 : Nat → Int, ∃ r : Int, (sameP M N) ∧ ((N 0 = 0 ∧ (0 ≤ i ∧ i < w 0) ∧ (1 ≤ a ∧ a ≤ 9999999) ∧ r = skpL 6 (WL w i) a) ∨ (N 0 = 1 ∧ ¬ (0 ≤ i ∧ i < w 0)) ∨ (N 0 = 2 ∧ (0 ≤ i ∧ i < w 0) ∧ ¬ (1 ≤ a ∧ a ≤ 9999999))) ∧ v9 = some (.int (iI r)) ∧ w9 = [oX8 (d 0) (N 0) (d 1) (d 2) (N 3) (d 3) (N 5) (d 4) (d 5) (d 6) (N 9) (d 7) (N 11) (N 12) (N 13) (N 14) (N 15) (N 16) (N 17) (N 18) (N 19) (N 20) (N 21) (N 22) (N 23) (N 24) (N 25) (N 26) (N 27) (N 28), arI X (d 1) 122 w, arI X (d 5) 122 g9]) 0 0 := by
  refine lo_enter (cc := cX8_skipsWithin) (maxL := 6) (ret := (some .int)) (lv := [(0, .ref (d 0)), (1, .int (iI i)), (2, .int (iI a))]) (by decide) rfl rfl (Nat.le_of_ble_eq_true rfl) ?_
  intro p9 e9 s9 m9 bl9 me9 c9 A9 ls hAe E hRt hLk hK hl hw
  have Ex := E.1
  have Eb := E.2.1
  have huRX8 : ∀ w ∈ u_ws RX8 TX8 29, w ∈ wsX8_skipsWithin := by decide +kernel
  have hf56 : (Cond.fieldLink RX8 56 "LoanScheduleModel" "thrown" "I").before _ s9 = true := E.2.2.2.2 _ (List.mem_of_getElem? (i := 1) rfl)
  have hc154 : (Cond.constant RX8 154 (9999999)).before _ s9 = true := E.2.2.2.2 _ (List.mem_of_getElem? (i := 2) rfl)
  have hf9 : (Cond.fieldLink RX8 9 "LoanScheduleModel" "w" "[I").before _ s9 = true := E.2.2.2.2 _ (List.mem_of_getElem? (i := 3) rfl)
  have hf24 : (Cond.fieldLink RX8 24 "LoanScheduleModel" "aside" "[I").before _ s9 = true := E.2.2.2.2 _ (List.mem_of_getElem? (i := 4) rfl)
  obtain ⟨⟨hn0, hn1⟩, ⟨hb0, hb1⟩, hL⟩ := id hWI
  refine lv_aload_n Ex Eb dX8_skipsWithin_0 rfl (lv_at hl 0 rfl) ?_
  refine lv_iconst (v := iI 0) Ex Eb dX8_skipsWithin_1 rfl ?_
  refine lo_put E hK hw huRX8 tyX8 tyX8_ok nmX8 0 hf56 rfl 0 rfl rfl (by decide) rfl rfl rfl rfl (Nat.le_of_ble_eq_true rfl) (ws' := [oX8 (d 0) 0 (d 1) (d 2) (M 3) (d 3) (M 5) (d 4) (d 5) (d 6) (M 9) (d 7) (M 11) (M 12) (M 13) (M 14) (M 15) (M 16) (M 17) (M 18) (M 19) (M 20) (M 21) (M 22) (M 23) (M 24) (M 25) (M 26) (M 27) (M 28), arI X (d 1) 122 w, arI X (d 5) 122 g]) rfl dX8_skipsWithin_2 (fun H locs hw => ?_)
  refine lv_aload_n Ex Eb dX8_skipsWithin_5 rfl (lv_at hl 0 rfl) ?_
  refine lv_iload_n Ex Eb dX8_skipsWithin_6 rfl (lv_at hl 1 rfl) ?_
  refine lo_callV (q0 := 0) (rest := []) E hK hw (kX8_noLoan l X d (uI M 0 0) w i (hWI) (by omega)) (cwV 1 E.2.2.2.2 gX8_skipsWithin_X8_noLoan rfl rfl rfl (by decide +kernel) ⟨Nat.le_of_ble_eq_true rfl, Nat.le_of_ble_eq_true rfl⟩) rfl rfl [0, 1] rfl (by decide) hl.1 rfl rfl (Nat.le_of_ble_eq_true rfl) dX8_skipsWithin_7 ⟨Nat.le_of_ble_eq_true rfl, Nat.le_of_ble_eq_true rfl⟩ (fun v w1 H locs hq hw => ?_)
  obtain ⟨z1, t2, q7_0, rfl, rfl⟩ := hq
  change (z1 = 0 ∧ t2 = 0 ∧ 0 ≤ i ∧ i < w 0) ∨ (z1 = 1 ∧ t2 = 1 ∧ ¬ (0 ≤ i ∧ i < w 0)) at q7_0
  have hw : lo_Wd X ([oX8 (d 0) t2 (d 1) (d 2) (M 3) (d 3) (M 5) (d 4) (d 5) (d 6) (M 9) (d 7) (M 11) (M 12) (M 13) (M 14) (M 15) (M 16) (M 17) (M 18) (M 19) (M 20) (M 21) (M 22) (M 23) (M 24) (M 25) (M 26) (M 27) (M 28), arI X (d 1) 122 w, arI X (d 5) 122 g]) A9 s9.heap H locs := hw
  refine W.eq (g2 := F0 m9 10 ls [.int (iI z1)]) rfl ?_
  refine lo_if_ne (tgt := 25) E dX8_skipsWithin_10 (by decide) (by omega) (fun c3 => ?_) (fun c3 => ?_)
  · skip
    refine lv_iconst (v := iI 0) Ex Eb dX8_skipsWithin_25 rfl ?_
    exact lo_iret E hRt hLk hK hAe hw dX8_skipsWithin_26 rfl ⟨uI M 0 t2, g, 0, (by first | exact sameP_t | exact iv43_0.1 | exact iv43_0.1.tr (sameP_s q50_0)), (by first | (refine Or.inl ⟨iv43_0.2, by omega, by omega, by omega⟩) | (have hn := skpL_n (n := fu) (L := WL u i) (a := a) (by show ¬ (0 < wOf u i 1 ∧ wOf u i 9 < 6 ∧ fW (wOf u i 1) (wOf u i 2) (wOf u i 5) ≤ 9999999); omega); exact Or.inl ⟨(sameW_0 q50_0).trans iv43_0.2, by omega, by omega, by omega⟩) | (simp only [uI_s, and_true]; omega)), rfl, rfl⟩
  · skip
    refine lv_aload_n Ex Eb dX8_skipsWithin_13 rfl (lv_at hl 0 rfl) ?_
    refine lv_iload_n Ex Eb dX8_skipsWithin_14 rfl (lv_at hl 2 rfl) ?_
    refine lv_iconst (v := iI 1) Ex Eb dX8_skipsWithin_15 rfl ?_
    refine lo_ldc (z := 9999999) E hc154 dX8_skipsWithin_16 rfl ?_
    refine lv_iconst (v := iI 2) Ex Eb dX8_skipsWithin_18 rfl ?_
    refine lo_callV (q0 := 0) (rest := []) E hK hw (kX8_outside l X d (uI M 0 t2) a 1 9999999 2 (by omega) (by omega) (by omega)) (cwV 4 E.2.2.2.2 gX8_skipsWithin_X8_outside rfl rfl rfl (by decide +kernel) ⟨Nat.le_of_ble_eq_true rfl, Nat.le_of_ble_eq_true rfl⟩) rfl rfl [0] rfl (by decide) hl.1 rfl rfl (Nat.le_of_ble_eq_true rfl) dX8_skipsWithin_19 ⟨Nat.le_of_ble_eq_true rfl, Nat.le_of_ble_eq_true rfl⟩ (fun v w1 H locs hq hw => ?_)
    obtain ⟨z4, t5, q19_0, rfl, rfl⟩ := hq
    change (z4 = 0 ∧ t5 = t2 ∧ 1 ≤ a ∧ a ≤ 9999999) ∨ (z4 = 1 ∧ t5 = 2 ∧ ¬ (1 ≤ a ∧ a ≤ 9999999)) at q19_0
    have hw : lo_Wd X ([oX8 (d 0) t5 (d 1) (d 2) (M 3) (d 3) (M 5) (d 4) (d 5) (d 6) (M 9) (d 7) (M 11) (M 12) (M 13) (M 14) (M 15) (M 16) (M 17) (M 18) (M 19) (M 20) (M 21) (M 22) (M 23) (M 24) (M 25) (M 26) (M 27) (M 28), arI X (d 1) 122 w, arI X (d 5) 122 g]) A9 s9.heap H locs := hw
    refine W.eq (g2 := F0 m9 22 ls [.int (iI z4)]) rfl ?_
    refine lo_if_eq (tgt := 27) E dX8_skipsWithin_22 (by decide) (by omega) (fun c6 => ?_) (fun c6 => ?_)
    · skip
      have hLi := hL i (by omega) (by omega)
      have hW1 := WI_1 hWI (i := i) (by omega) (by omega)
      have hc5 : 0 ≤ wOf w i 5 ∧ wOf w i 5 < 120000 := hLi.2.2.1
      have hi4 : 0 ≤ wOf w i 4 ∧ wOf w i 4 ≤ 10249999 := hLi.2.2.2.2.1
      have hk90 : 0 ≤ wOf w i 9 := hLi.2.2.2.2.2.1.1
      refine lv_aload_n Ex Eb dX8_skipsWithin_27 rfl (lv_at hl 0 rfl) ?_
      refine lo_get E hK hw huRX8 1 hf9 rfl 0 rfl rfl (by decide) (v := .ref (d 1)) rfl dX8_skipsWithin_28 ?_
      refine lv_aload_n Ex Eb dX8_skipsWithin_31 rfl (lv_at hl 0 rfl) ?_
      refine lo_get E hK hw huRX8 7 hf24 rfl 0 rfl rfl (by decide) (v := .ref (d 5)) rfl dX8_skipsWithin_32 ?_
      refine lo_callS (rest := []) E hK hw (kX8_copy l X (d 1) (d 5) w g ) (cwS 2 E.2.2.2.2 gX8_skipsWithin_X8_copy rfl rfl rfl (by decide +kernel) ⟨Nat.le_of_ble_eq_true rfl, Nat.le_of_ble_eq_true rfl⟩) [1, 2] rfl (by decide) hl.1 rfl rfl (Nat.le_of_ble_eq_true rfl) dX8_skipsWithin_35 ⟨Nat.le_of_ble_eq_true rfl, Nat.le_of_ble_eq_true rfl⟩ (fun v w1 H locs hq hw => ?_)
      obtain ⟨rfl, rfl⟩ := hq
      have hw : lo_Wd X ([oX8 (d 0) t5 (d 1) (d 2) (M 3) (d 3) (M 5) (d 4) (d 5) (d 6) (M 9) (d 7) (M 11) (M 12) (M 13) (M 14) (M 15) (M 16) (M 17) (M 18) (M 19) (M 20) (M 21) (M 22) (M 23) (M 24) (M 25) (M 26) (M 27) (M 28), arI X (d 1) 122 w, arI X (d 5) 122 w]) A9 s9.heap H locs := hw
      refine W.eq (g2 := F0 m9 38 ls []) rfl ?_
      refine lv_iconst (v := iI 0) Ex Eb dX8_skipsWithin_38 rfl ?_
      refine lv_istore_n (lv' := [(3, .int (iI 0)), (0, .ref (d 0)), (1, .int (iI i)), (2, .int (iI a))]) Ex Eb dX8_skipsWithin_39 rfl hl (by decide) rfl (fun ls hl => ?_)
      refine lv_iconst (v := iI 1) Ex Eb dX8_skipsWithin_40 rfl ?_
      refine lv_istore (lv' := [(4, .int (iI 1)), (3, .int (iI 0)), (0, .ref (d 0)), (1, .int (iI i)), (2, .int (iI a))]) Ex Eb dX8_skipsWithin_41 hl (by decide) rfl (fun ls hl => ?_)
      have lp43 : ∀ (n : Nat) (K u : Nat → Int) (sk ok : Int) (fu : Nat), (6 - wOf u i 9).toNat < n → (sameP M K ∧ K 0 = 0) → (LI (WL u i)) → ((ok = 1 ∧ skpL fu (WL u i) a + sk = skpL 6 (WL w i) a ∧ 6 - wOf u i 9 ≤ fu) ∨ (ok = 0 ∧ sk = skpL 6 (WL w i) a)) → ∀ (H : Heap) (locs : List Loc) (ls : Array Slot), lo_Wd X ([oX8 (d 0) (K 0) (d 1) (d 2) (K 3) (d 3) (K 5) (d 4) (d 5) (d 6) (K 9) (d 7) (K 11) (K 12) (K 13) (K 14) (K 15) (K 16) (K 17) (K 18) (K 19) (K 20) (K 21) (K 22) (K 23) (K 24) (K 25) (K 26) (K 27) (K 28), arI X (d 1) 122 u, arI X (d 5) 122 w]) A9 s9.heap H locs → lv_has ls 6 [(0, .ref (d 0)), (1, .int (iI i)), (2, .int (iI a)), (3, .int (iI sk)), (4, .int (iI ok))] → W p9 l e9 ({ frames := 6, cells := 0, slots := 0, locals := 150 } : Room) s9 m9 ([.ref (d 0), .int (iI i), .int (iI a)] : List Value).toArray bl9 me9 c9 H locs 0 0 (MQ bl9 (lo_Qc X ([oX8 (d 0) (M 0) (d 1) (d 2) (M 3) (d 3) (M 5) (d 4) (d 5) (d 6) (M 9) (d 7) (M 11) (M 12) (M 13) (M 14) (M 15) (M 16) (M 17) (M 18) (M 19) (M 20) (M 21) (M 22) (M 23) (M 24) (M 25) (M 26) (M 27) (M 28), arI X (d 1) 122 w, arI X (d 5) 122 g]) s9.heap.size (fun v9 w9 => ∃ N : Nat → Int, ∃ g9 : Nat → Int, ∃ r : Int, (sameP M N) ∧ ((N 0 = 0 ∧ (0 ≤ i ∧ i < w 0) ∧ (1 ≤ a ∧ a ≤ 9999999) ∧ r = skpL 6 (WL w i) a) ∨ (N 0 = 1 ∧ ¬ (0 ≤ i ∧ i < w 0)) ∨ (N 0 = 2 ∧ (0 ≤ i ∧ i < w 0) ∧ ¬ (1 ≤ a ∧ a ≤ 9999999))) ∧ v9 = some (.int (iI r)) ∧ w9 = [oX8 (d 0) (N 0) (d 1) (d 2) (N 3) (d 3) (N 5) (d 4) (d 5) (d 6) (N 9) (d 7) (N 11) (N 12) (N 13) (N 14) (N 15) (N 16) (N 17) (N 18) (N 19) (N 20) (N 21) (N 22) (N 23) (N 24) (N 25) (N 26) (N 27) (N 28), arI X (d 1) 122 w, arI X (d 5) 122 g9])) ([.ref (d 0), .int (iI i), .int (iI a)] : List Value).toArray s9 0 0 A9) (F0 m9 43 ls []) := by
        intro n
        induction n with
        | zero => intro K u sk ok fu hn; exact absurd hn (Nat.not_lt_zero _)
        | succ n ih43 =>
          intro K u sk ok fu hn43 iv43_0 iv43_1 iv43_2 H locs ls hw hl
          have hk9 : 0 ≤ wOf u i 9 ∧ wOf u i 9 ≤ 6 := ⟨iv43_1.2.2.2.2.2.1.1, iv43_1.2.2.2.2.2.1.2.1⟩
          refine lv_iload Ex Eb dX8_skipsWithin_43 (lv_at hl 4 rfl) ?_
          refine lo_if_eq (tgt := 101) E dX8_skipsWithin_45 (by decide) (by omega) (fun c7 => ?_) (fun c7 => ?_)
          · skip
            refine lv_aload_n Ex Eb dX8_skipsWithin_101 rfl (lv_at hl 0 rfl) ?_
            refine lo_get E hK hw huRX8 7 hf24 rfl 0 rfl rfl (by decide) (v := .ref (d 5)) rfl dX8_skipsWithin_102 ?_
            refine lv_aload_n Ex Eb dX8_skipsWithin_105 rfl (lv_at hl 0 rfl) ?_
            refine lo_get E hK hw huRX8 1 hf9 rfl 0 rfl rfl (by decide) (v := .ref (d 1)) rfl dX8_skipsWithin_106 ?_
            refine lo_callS (rest := []) E hK hw (kX8_copy l X (d 5) (d 1) w u ) (cwS 2 E.2.2.2.2 gX8_skipsWithin_X8_copy rfl rfl rfl (by decide +kernel) ⟨Nat.le_of_ble_eq_true rfl, Nat.le_of_ble_eq_true rfl⟩) [2, 1] rfl (by decide) hl.1 rfl rfl (Nat.le_of_ble_eq_true rfl) dX8_skipsWithin_109 ⟨Nat.le_of_ble_eq_true rfl, Nat.le_of_ble_eq_true rfl⟩ (fun v w1 H locs hq hw => ?_)
            obtain ⟨rfl, rfl⟩ := hq
            have hw : lo_Wd X ([oX8 (d 0) (K 0) (d 1) (d 2) (K 3) (d 3) (K 5) (d 4) (d 5) (d 6) (K 9) (d 7) (K 11) (K 12) (K 13) (K 14) (K 15) (K 16) (K 17) (K 18) (K 19) (K 20) (K 21) (K 22) (K 23) (K 24) (K 25) (K 26) (K 27) (K 28), arI X (d 1) 122 w, arI X (d 5) 122 w]) A9 s9.heap H locs := hw
            refine W.eq (g2 := F0 m9 112 ls []) rfl ?_
            refine lv_iload_n Ex Eb dX8_skipsWithin_112 rfl (lv_at hl 3 rfl) ?_
            exact lo_iret E hRt hLk hK hAe hw dX8_skipsWithin_113 rfl ⟨K, w, sk, (by first | exact sameP_t | exact iv43_0.1 | exact iv43_0.1.tr (sameP_s q50_0)), (by first | (refine Or.inl ⟨iv43_0.2, by omega, by omega, by omega⟩) | (have hn := skpL_n (n := fu) (L := WL u i) (a := a) (by show ¬ (0 < wOf u i 1 ∧ wOf u i 9 < 6 ∧ fW (wOf u i 1) (wOf u i 2) (wOf u i 5) ≤ 9999999); omega); exact Or.inl ⟨(sameW_0 q50_0).trans iv43_0.2, by omega, by omega, by omega⟩) | (simp only [uI_s, and_true]; omega)), rfl, rfl⟩
          · skip
            refine lv_aload_n Ex Eb dX8_skipsWithin_48 rfl (lv_at hl 0 rfl) ?_
            refine lv_iload_n Ex Eb dX8_skipsWithin_49 rfl (lv_at hl 1 rfl) ?_
            refine lo_callV (q0 := 0) (rest := []) E hK hw (kX8_cannotSkip l X d K u i (by omega) (iv43_1)) (cwV 1 E.2.2.2.2 gX8_skipsWithin_X8_cannotSkip rfl rfl rfl (by decide +kernel) ⟨Nat.le_of_ble_eq_true rfl, Nat.le_of_ble_eq_true rfl⟩) rfl rfl [0, 1] rfl (by decide) hl.1 rfl rfl (Nat.le_of_ble_eq_true rfl) dX8_skipsWithin_50 ⟨Nat.le_of_ble_eq_true rfl, Nat.le_of_ble_eq_true rfl⟩ (fun v w1 H locs hq hw => ?_)
            obtain ⟨N8, z9, q50_0, q50_1, rfl, rfl⟩ := hq
            have hw : lo_Wd X ([oX8 (d 0) (N8 0) (d 1) (d 2) (N8 3) (d 3) (N8 5) (d 4) (d 5) (d 6) (N8 9) (d 7) (N8 11) (N8 12) (N8 13) (N8 14) (N8 15) (N8 16) (N8 17) (N8 18) (N8 19) (N8 20) (N8 21) (N8 22) (N8 23) (N8 24) (N8 25) (N8 26) (N8 27) (N8 28), arI X (d 1) 122 u, arI X (d 5) 122 w]) A9 s9.heap H locs := hw
            refine W.eq (g2 := F0 m9 53 ls [.int (iI z9)]) rfl ?_
            refine lo_if_ne (tgt := 101) E dX8_skipsWithin_53 (by decide) (by omega) (fun c10 => ?_) (fun c10 => ?_)
            · skip
              refine lv_aload_n Ex Eb dX8_skipsWithin_101 rfl (lv_at hl 0 rfl) ?_
              refine lo_get E hK hw huRX8 7 hf24 rfl 0 rfl rfl (by decide) (v := .ref (d 5)) rfl dX8_skipsWithin_102 ?_
              refine lv_aload_n Ex Eb dX8_skipsWithin_105 rfl (lv_at hl 0 rfl) ?_
              refine lo_get E hK hw huRX8 1 hf9 rfl 0 rfl rfl (by decide) (v := .ref (d 1)) rfl dX8_skipsWithin_106 ?_
              refine lo_callS (rest := []) E hK hw (kX8_copy l X (d 5) (d 1) w u ) (cwS 2 E.2.2.2.2 gX8_skipsWithin_X8_copy rfl rfl rfl (by decide +kernel) ⟨Nat.le_of_ble_eq_true rfl, Nat.le_of_ble_eq_true rfl⟩) [2, 1] rfl (by decide) hl.1 rfl rfl (Nat.le_of_ble_eq_true rfl) dX8_skipsWithin_109 ⟨Nat.le_of_ble_eq_true rfl, Nat.le_of_ble_eq_true rfl⟩ (fun v w1 H locs hq hw => ?_)
              obtain ⟨rfl, rfl⟩ := hq
              have hw : lo_Wd X ([oX8 (d 0) (N8 0) (d 1) (d 2) (N8 3) (d 3) (N8 5) (d 4) (d 5) (d 6) (N8 9) (d 7) (N8 11) (N8 12) (N8 13) (N8 14) (N8 15) (N8 16) (N8 17) (N8 18) (N8 19) (N8 20) (N8 21) (N8 22) (N8 23) (N8 24) (N8 25) (N8 26) (N8 27) (N8 28), arI X (d 1) 122 w, arI X (d 5) 122 w]) A9 s9.heap H locs := hw
              refine W.eq (g2 := F0 m9 112 ls []) rfl ?_
              refine lv_iload_n Ex Eb dX8_skipsWithin_112 rfl (lv_at hl 3 rfl) ?_
              exact lo_iret E hRt hLk hK hAe hw dX8_skipsWithin_113 rfl ⟨N8, w, sk, (by first | exact sameP_t | exact iv43_0.1 | exact iv43_0.1.tr (sameP_s q50_0)), (by first | (refine Or.inl ⟨iv43_0.2, by omega, by omega, by omega⟩) | (have hn := skpL_n (n := fu) (L := WL u i) (a := a) (by show ¬ (0 < wOf u i 1 ∧ wOf u i 9 < 6 ∧ fW (wOf u i 1) (wOf u i 2) (wOf u i 5) ≤ 9999999); omega); exact Or.inl ⟨(sameW_0 q50_0).trans iv43_0.2, by omega, by omega, by omega⟩) | (simp only [uI_s, and_true]; omega)), rfl, rfl⟩
            · skip
              have hdo : 0 < WL u i 1 := by show 0 < wOf u i 1; omega
              have hd6 : WL u i 9 < 6 := by show wOf u i 9 < 6; omega
              have hdw : fW (WL u i 1) (WL u i 2) (WL u i 5) ≤ 9999999 := by show fW (wOf u i 1) (wOf u i 2) (wOf u i 5) ≤ 9999999; omega
              have hdf := wDef_R (w := u) (i := i) (by omega)
              have hdL := WR_LI hdf (defL_LI iv43_1 hdo hd6 hdw)
              have hd9 : wOf (wDef u i) i 9 = wOf u i 9 + 1 := hdf.1 9 (by omega)
              have hd4 : wOf (wDef u i) i 4 = defL (WL u i) 4 := hdf.1 4 (by omega)
              have hdr : 0 ≤ wOf (wDef u i) i 4 ∧ wOf (wDef u i) i 4 ≤ 10249999 := hdL.2.2.2.2.1
              have hsx : skpL (fu - 1) (WL (wDef u i) i) a = skpL (fu - 1) (defL (WL u i)) a := skpL_x _ hdf.1
              have hu9 : 0 ≤ wOf u i 1 ∧ wOf u i 1 ≤ 9999999 := iv43_1.1
              have hfi := fI_r iv43_1.1.1 iv43_1.2.1.1 iv43_1.2.1.2 iv43_1.2.2.1.1 iv43_1.2.2.1.2
              change 0 ≤ fI (wOf u i 1) (wOf u i 2) (wOf u i 5) ∧ fI (wOf u i 1) (wOf u i 2) (wOf u i 5) ≤ wOf u i 1 / 40 + 1 at hfi
              refine lv_aload_n Ex Eb dX8_skipsWithin_56 rfl (lv_at hl 0 rfl) ?_
              refine lv_iload_n Ex Eb dX8_skipsWithin_57 rfl (lv_at hl 1 rfl) ?_
              refine lo_callV (q0 := 0) (rest := []) E hK hw (kX8_skip l X d N8 u i (by omega) (iv43_1) (by omega) (by omega)) (cwV 1 E.2.2.2.2 gX8_skipsWithin_X8_skip rfl rfl rfl (by decide +kernel) ⟨Nat.le_of_ble_eq_true rfl, Nat.le_of_ble_eq_true rfl⟩) rfl rfl [0, 1] rfl (by decide) hl.1 rfl rfl (Nat.le_of_ble_eq_true rfl) dX8_skipsWithin_58 ⟨Nat.le_of_ble_eq_true rfl, Nat.le_of_ble_eq_true rfl⟩ (fun v w1 H locs hq hw => ?_)
              obtain ⟨N11, q58_0, rfl, rfl⟩ := hq
              have hw : lo_Wd X ([oX8 (d 0) (N11 0) (d 1) (d 2) (N11 3) (d 3) (N11 5) (d 4) (d 5) (d 6) (N11 9) (d 7) (N11 11) (N11 12) (N11 13) (N11 14) (N11 15) (N11 16) (N11 17) (N11 18) (N11 19) (N11 20) (N11 21) (N11 22) (N11 23) (N11 24) (N11 25) (N11 26) (N11 27) (N11 28), arI X (d 1) 122 (wDef u i), arI X (d 5) 122 w]) A9 s9.heap H locs := hw
              refine W.eq (g2 := F0 m9 61 ls [.int (iI (fI (wOf u i 1) (wOf u i 2) (wOf u i 5)))]) rfl ?_
              refine lv_istore (lv' := [(5, .int (iI (fI (wOf u i 1) (wOf u i 2) (wOf u i 5)))), (0, .ref (d 0)), (1, .int (iI i)), (2, .int (iI a)), (3, .int (iI sk)), (4, .int (iI ok))]) Ex Eb dX8_skipsWithin_61 hl (by decide) rfl (fun ls hl => ?_)
              refine lv_iload Ex Eb dX8_skipsWithin_63 (lv_at hl 0 rfl) ?_
              refine lo_if_lt (tgt := 82) E dX8_skipsWithin_65 (by decide) (by omega) (fun c12 => ?_) (fun c12 => ?_)
              · skip
                refine lv_iconst (v := iI 0) Ex Eb dX8_skipsWithin_82 rfl ?_
                refine lv_istore (lv' := [(4, .int (iI 0)), (5, .int (iI (fI (wOf u i 1) (wOf u i 2) (wOf u i 5)))), (0, .ref (d 0)), (1, .int (iI i)), (2, .int (iI a)), (3, .int (iI sk))]) Ex Eb dX8_skipsWithin_83 hl (by decide) rfl (fun ls hl => ?_)
                refine lv_iload_n Ex Eb dX8_skipsWithin_85 rfl (lv_at hl 5 rfl) ?_
                refine lv_iload Ex Eb dX8_skipsWithin_86 (lv_at hl 0 rfl) ?_
                refine lo_if_eq (tgt := 95) E dX8_skipsWithin_88 (by decide) (by omega) (fun c13 => ?_) (fun c13 => ?_)
                · skip
                  refine lv_iconst (v := iI 0) Ex Eb dX8_skipsWithin_95 rfl ?_
                  refine lo_iadd E dX8_skipsWithin_96 ?_
                  refine lv_istore_n (lv' := [(3, .int (iI (sk + 0))), (4, .int (iI 0)), (5, .int (iI (fI (wOf u i 1) (wOf u i 2) (wOf u i 5)))), (0, .ref (d 0)), (1, .int (iI i)), (2, .int (iI a))]) Ex Eb dX8_skipsWithin_97 rfl hl (by decide) rfl (fun ls hl => ?_)
                  refine lv_goto (tgt := 43) Ex Eb dX8_skipsWithin_98 (by decide) ?_
                  exact ih43 N11 (wDef u i) (sk + 0) 0 (fu - 1) (by omega) (⟨(iv43_0.1.tr (sameP_s q50_0)).tr (sameP_s q58_0), (sameW_0 q58_0).trans ((sameW_0 q50_0).trans iv43_0.2)⟩) (hdL) (by first | (exfalso; omega) | (have hm := skpL_m (n := fu - 1) (L := WL u i) (a := a) (by rw [← hd4]; omega); rw [show fu - 1 + 1 = fu by omega] at hm; exact Or.inr ⟨rfl, by omega⟩) | (have hy := skpL_y (n := fu - 1) (L := WL u i) (a := a) ⟨hdo, hd6, hdw⟩ (by rw [← hd4]; omega); rw [show fu - 1 + 1 = fu by omega] at hy; exact Or.inl ⟨rfl, by omega, by omega⟩)) _ _ _ hw (lv_sub hl [3, 4, 5, 0, 1] rfl)
                · skip
                  refine lv_iconst (v := iI 1) Ex Eb dX8_skipsWithin_91 rfl ?_
                  refine lv_goto (tgt := 96) Ex Eb dX8_skipsWithin_92 (by decide) ?_
                  refine lo_iadd E dX8_skipsWithin_96 ?_
                  refine lv_istore_n (lv' := [(3, .int (iI (sk + 1))), (4, .int (iI 0)), (5, .int (iI (fI (wOf u i 1) (wOf u i 2) (wOf u i 5)))), (0, .ref (d 0)), (1, .int (iI i)), (2, .int (iI a))]) Ex Eb dX8_skipsWithin_97 rfl hl (by decide) rfl (fun ls hl => ?_)
                  refine lv_goto (tgt := 43) Ex Eb dX8_skipsWithin_98 (by decide) ?_
                  exact ih43 N11 (wDef u i) (sk + 1) 0 (fu - 1) (by omega) (⟨(iv43_0.1.tr (sameP_s q50_0)).tr (sameP_s q58_0), (sameW_0 q58_0).trans ((sameW_0 q50_0).trans iv43_0.2)⟩) (hdL) (by first | (exfalso; omega) | (have hm := skpL_m (n := fu - 1) (L := WL u i) (a := a) (by rw [← hd4]; omega); rw [show fu - 1 + 1 = fu by omega] at hm; exact Or.inr ⟨rfl, by omega⟩) | (have hy := skpL_y (n := fu - 1) (L := WL u i) (a := a) ⟨hdo, hd6, hdw⟩ (by rw [← hd4]; omega); rw [show fu - 1 + 1 = fu by omega] at hy; exact Or.inl ⟨rfl, by omega, by omega⟩)) _ _ _ hw (lv_sub hl [3, 4, 5, 0, 1] rfl)
              · skip
                refine lv_aload_n Ex Eb dX8_skipsWithin_68 rfl (lv_at hl 1 rfl) ?_
                refine lv_iload_n Ex Eb dX8_skipsWithin_69 rfl (lv_at hl 2 rfl) ?_
                refine lv_iconst (v := iI 4) Ex Eb dX8_skipsWithin_70 rfl ?_
                refine lo_callV (q0 := 0) (rest := []) E hK hw (kX8_of l X d N11 (wDef u i) i 4 (by omega) (by omega)) (cwV 2 E.2.2.2.2 gX8_skipsWithin_X8_of rfl rfl rfl (by decide +kernel) ⟨Nat.le_of_ble_eq_true rfl, Nat.le_of_ble_eq_true rfl⟩) rfl rfl [0, 1] rfl (by decide) hl.1 rfl rfl (Nat.le_of_ble_eq_true rfl) dX8_skipsWithin_71 ⟨Nat.le_of_ble_eq_true rfl, Nat.le_of_ble_eq_true rfl⟩ (fun v w1 H locs hq hw => ?_)
                obtain ⟨rfl, rfl⟩ := hq
                have hw : lo_Wd X ([oX8 (d 0) (N11 0) (d 1) (d 2) (N11 3) (d 3) (N11 5) (d 4) (d 5) (d 6) (N11 9) (d 7) (N11 11) (N11 12) (N11 13) (N11 14) (N11 15) (N11 16) (N11 17) (N11 18) (N11 19) (N11 20) (N11 21) (N11 22) (N11 23) (N11 24) (N11 25) (N11 26) (N11 27) (N11 28), arI X (d 1) 122 (wDef u i), arI X (d 5) 122 w]) A9 s9.heap H locs := hw
                refine W.eq (g2 := F0 m9 74 ls [.int (iI (wOf (wDef u i) i 4))]) rfl ?_
                refine lv_iload_n Ex Eb dX8_skipsWithin_74 rfl (lv_at hl 3 rfl) ?_
                refine lo_icmp_gt (tgt := 82) E dX8_skipsWithin_75 (by decide) (by omega) (by omega) (fun c14 => ?_) (fun c14 => ?_)
                · skip
                  refine lv_iconst (v := iI 0) Ex Eb dX8_skipsWithin_82 rfl ?_
                  refine lv_istore (lv' := [(4, .int (iI 0)), (5, .int (iI (fI (wOf u i 1) (wOf u i 2) (wOf u i 5)))), (0, .ref (d 0)), (1, .int (iI i)), (2, .int (iI a)), (3, .int (iI sk))]) Ex Eb dX8_skipsWithin_83 hl (by decide) rfl (fun ls hl => ?_)
                  refine lv_iload_n Ex Eb dX8_skipsWithin_85 rfl (lv_at hl 5 rfl) ?_
                  refine lv_iload Ex Eb dX8_skipsWithin_86 (lv_at hl 0 rfl) ?_
                  refine lo_if_eq (tgt := 95) E dX8_skipsWithin_88 (by decide) (by omega) (fun c15 => ?_) (fun c15 => ?_)
                  · skip
                    refine lv_iconst (v := iI 0) Ex Eb dX8_skipsWithin_95 rfl ?_
                    refine lo_iadd E dX8_skipsWithin_96 ?_
                    refine lv_istore_n (lv' := [(3, .int (iI (sk + 0))), (4, .int (iI 0)), (5, .int (iI (fI (wOf u i 1) (wOf u i 2) (wOf u i 5)))), (0, .ref (d 0)), (1, .int (iI i)), (2, .int (iI a))]) Ex Eb dX8_skipsWithin_97 rfl hl (by decide) rfl (fun ls hl => ?_)
                    refine lv_goto (tgt := 43) Ex Eb dX8_skipsWithin_98 (by decide) ?_
                    exact ih43 N11 (wDef u i) (sk + 0) 0 (fu - 1) (by omega) (⟨(iv43_0.1.tr (sameP_s q50_0)).tr (sameP_s q58_0), (sameW_0 q58_0).trans ((sameW_0 q50_0).trans iv43_0.2)⟩) (hdL) (by first | (exfalso; omega) | (have hm := skpL_m (n := fu - 1) (L := WL u i) (a := a) (by rw [← hd4]; omega); rw [show fu - 1 + 1 = fu by omega] at hm; exact Or.inr ⟨rfl, by omega⟩) | (have hy := skpL_y (n := fu - 1) (L := WL u i) (a := a) ⟨hdo, hd6, hdw⟩ (by rw [← hd4]; omega); rw [show fu - 1 + 1 = fu by omega] at hy; exact Or.inl ⟨rfl, by omega, by omega⟩)) _ _ _ hw (lv_sub hl [3, 4, 5, 0, 1] rfl)
                  · skip
                    refine lv_iconst (v := iI 1) Ex Eb dX8_skipsWithin_91 rfl ?_
                    refine lv_goto (tgt := 96) Ex Eb dX8_skipsWithin_92 (by decide) ?_
                    refine lo_iadd E dX8_skipsWithin_96 ?_
                    refine lv_istore_n (lv' := [(3, .int (iI (sk + 1))), (4, .int (iI 0)), (5, .int (iI (fI (wOf u i 1) (wOf u i 2) (wOf u i 5)))), (0, .ref (d 0)), (1, .int (iI i)), (2, .int (iI a))]) Ex Eb dX8_skipsWithin_97 rfl hl (by decide) rfl (fun ls hl => ?_)
                    refine lv_goto (tgt := 43) Ex Eb dX8_skipsWithin_98 (by decide) ?_
                    exact ih43 N11 (wDef u i) (sk + 1) 0 (fu - 1) (by omega) (⟨(iv43_0.1.tr (sameP_s q50_0)).tr (sameP_s q58_0), (sameW_0 q58_0).trans ((sameW_0 q50_0).trans iv43_0.2)⟩) (hdL) (by first | (exfalso; omega) | (have hm := skpL_m (n := fu - 1) (L := WL u i) (a := a) (by rw [← hd4]; omega); rw [show fu - 1 + 1 = fu by omega] at hm; exact Or.inr ⟨rfl, by omega⟩) | (have hy := skpL_y (n := fu - 1) (L := WL u i) (a := a) ⟨hdo, hd6, hdw⟩ (by rw [← hd4]; omega); rw [show fu - 1 + 1 = fu by omega] at hy; exact Or.inl ⟨rfl, by omega, by omega⟩)) _ _ _ hw (lv_sub hl [3, 4, 5, 0, 1] rfl)
                · skip
                  refine lv_iconst (v := iI 1) Ex Eb dX8_skipsWithin_78 rfl ?_
                  refine lv_goto (tgt := 83) Ex Eb dX8_skipsWithin_79 (by decide) ?_
                  refine lv_istore (lv' := [(4, .int (iI 1)), (5, .int (iI (fI (wOf u i 1) (wOf u i 2) (wOf u i 5)))), (0, .ref (d 0)), (1, .int (iI i)), (2, .int (iI a)), (3, .int (iI sk))]) Ex Eb dX8_skipsWithin_83 hl (by decide) rfl (fun ls hl => ?_)
                  refine lv_iload_n Ex Eb dX8_skipsWithin_85 rfl (lv_at hl 5 rfl) ?_
                  refine lv_iload Ex Eb dX8_skipsWithin_86 (lv_at hl 0 rfl) ?_
                  refine lo_if_eq (tgt := 95) E dX8_skipsWithin_88 (by decide) (by omega) (fun c16 => ?_) (fun c16 => ?_)
                  · skip
                    refine lv_iconst (v := iI 0) Ex Eb dX8_skipsWithin_95 rfl ?_
                    refine lo_iadd E dX8_skipsWithin_96 ?_
                    refine lv_istore_n (lv' := [(3, .int (iI (sk + 0))), (4, .int (iI 1)), (5, .int (iI (fI (wOf u i 1) (wOf u i 2) (wOf u i 5)))), (0, .ref (d 0)), (1, .int (iI i)), (2, .int (iI a))]) Ex Eb dX8_skipsWithin_97 rfl hl (by decide) rfl (fun ls hl => ?_)
                    refine lv_goto (tgt := 43) Ex Eb dX8_skipsWithin_98 (by decide) ?_
                    exact ih43 N11 (wDef u i) (sk + 0) 1 (fu - 1) (by omega) (⟨(iv43_0.1.tr (sameP_s q50_0)).tr (sameP_s q58_0), (sameW_0 q58_0).trans ((sameW_0 q50_0).trans iv43_0.2)⟩) (hdL) (by first | (exfalso; omega) | (have hm := skpL_m (n := fu - 1) (L := WL u i) (a := a) (by rw [← hd4]; omega); rw [show fu - 1 + 1 = fu by omega] at hm; exact Or.inr ⟨rfl, by omega⟩) | (have hy := skpL_y (n := fu - 1) (L := WL u i) (a := a) ⟨hdo, hd6, hdw⟩ (by rw [← hd4]; omega); rw [show fu - 1 + 1 = fu by omega] at hy; exact Or.inl ⟨rfl, by omega, by omega⟩)) _ _ _ hw (lv_sub hl [3, 4, 5, 0, 1] rfl)
                  · skip
                    refine lv_iconst (v := iI 1) Ex Eb dX8_skipsWithin_91 rfl ?_
                    refine lv_goto (tgt := 96) Ex Eb dX8_skipsWithin_92 (by decide) ?_
                    refine lo_iadd E dX8_skipsWithin_96 ?_
                    refine lv_istore_n (lv' := [(3, .int (iI (sk + 1))), (4, .int (iI 1)), (5, .int (iI (fI (wOf u i 1) (wOf u i 2) (wOf u i 5)))), (0, .ref (d 0)), (1, .int (iI i)), (2, .int (iI a))]) Ex Eb dX8_skipsWithin_97 rfl hl (by decide) rfl (fun ls hl => ?_)
                    refine lv_goto (tgt := 43) Ex Eb dX8_skipsWithin_98 (by decide) ?_
                    exact ih43 N11 (wDef u i) (sk + 1) 1 (fu - 1) (by omega) (⟨(iv43_0.1.tr (sameP_s q50_0)).tr (sameP_s q58_0), (sameW_0 q58_0).trans ((sameW_0 q50_0).trans iv43_0.2)⟩) (hdL) (by first | (exfalso; omega) | (have hm := skpL_m (n := fu - 1) (L := WL u i) (a := a) (by rw [← hd4]; omega); rw [show fu - 1 + 1 = fu by omega] at hm; exact Or.inr ⟨rfl, by omega⟩) | (have hy := skpL_y (n := fu - 1) (L := WL u i) (a := a) ⟨hdo, hd6, hdw⟩ (by rw [← hd4]; omega); rw [show fu - 1 + 1 = fu by omega] at hy; exact Or.inl ⟨rfl, by omega, by omega⟩)) _ _ _ hw (lv_sub hl [3, 4, 5, 0, 1] rfl)
      exact lp43 _ (uI M 0 t5) w 0 1 6 (Nat.lt_succ_self _) (⟨sameP_t, uI_s.trans (by omega)⟩) (hLi) (Or.inl ⟨rfl, by omega, by omega⟩) _ _ _ hw (lv_sub hl [2, 3, 4, 1, 0] rfl)
    · skip
      refine lv_iconst (v := iI 0) Ex Eb dX8_skipsWithin_25 rfl ?_
      exact lo_iret E hRt hLk hK hAe hw dX8_skipsWithin_26 rfl ⟨uI M 0 t5, g, 0, (by first | exact sameP_t | exact iv43_0.1 | exact iv43_0.1.tr (sameP_s q50_0)), (by first | (refine Or.inl ⟨iv43_0.2, by omega, by omega, by omega⟩) | (have hn := skpL_n (n := fu) (L := WL u i) (a := a) (by show ¬ (0 < wOf u i 1 ∧ wOf u i 9 < 6 ∧ fW (wOf u i 1) (wOf u i 2) (wOf u i 5) ≤ 9999999); omega); exact Or.inl ⟨(sameW_0 q50_0).trans iv43_0.2, by omega, by omega, by omega⟩) | (simp only [uI_s, and_true]; omega)), rfl, rfl⟩
set_option maxHeartbeats 4000000 in
set_option maxRecDepth 100000 in
theorem kX8_spendBudget (l : Launch) (X : KX) (d : Nat → Nat) (M w : Nat → Int) (bu y : Int) (hWI : WI w) (hbu : 0 ≤ bu ∧ bu ≤ 9999999) (hy : y = 0 ∨ y = 1) : CM l X yX8_spendBudget wsX8_spendBudget ({ frames := 6, cells := 0, slots := 0, locals := 151 }) [.ref (d 0), .int (iI bu), .int (iI y)] ([oX8 (d 0) (M 0) (d 1) (d 2) (M 3) (d 3) (M 5) (d 4) (d 5) (d 6) (M 9) (d 7) (M 11) (M 12) (M 13) (M 14) (M 15) (M 16) (M 17) (M 18) (M 19) (M 20) (M 21) (M 22) (M 23) (M 24) (M 25) (M 26) (M 27) (M 28), arI X (d 1) 122 w]) (fun v9 w9 => ∃ N : Nat → Int, (sameW M N) ∧ v9 = none ∧ w9 = [oX8 (d 0) (N 0) (d 1) (d 2) (N 3) (d 3) (N 5) (d 4) (d 5) (d 6) (N 9) (d 7) (N 11) (N 12) (N 13) (N 14) (N 15) (N 16) (N 17) (N 18) (N 19) (N 20) (N 21) (N 22) (N 23) (N 24) (N 25) (N 26) (N 27) (N 28), arI X (d 1) 122 (wspF y 6 (wAll w (w 0).toNat) (bu - wSum w (w 0).toNat))]) 0 0 := by
  refine lo_enter (cc := cX8_spendBudget) (maxL := 6) (ret := none) (lv := [(0, .ref (d 0)), (1, .int (iI bu)), (2, .int (iI y))]) (by decide) rfl rfl (Nat.le_of_ble_eq_true rfl) ?_
  intro p9 e9 s9 m9 bl9 me9 c9 A9 ls hAe E hRt hLk hK hl hw
  have Ex := E.1
  have Eb := E.2.1
  obtain ⟨⟨hn0, hn1⟩, ⟨hb0, hb1⟩, hL⟩ := id hWI
  have hWA := wAll_WI hWI (w 0).toNat (by omega)
  have hSR := wSum_r hWI (w 0).toNat (by omega)
  refine lv_iload_n Ex Eb dX8_spendBudget_0 rfl (lv_at hl 1 rfl) ?_
  refine lv_aload_n Ex Eb dX8_spendBudget_1 rfl (lv_at hl 0 rfl) ?_
  refine lo_callV (q0 := 0) (rest := [.int (iI bu)]) E hK hw (kX8_payEach l X d M w (by omega)) (cwV 0 E.2.2.2.2 gX8_spendBudget_X8_payEach rfl rfl rfl (by decide +kernel) ⟨Nat.le_of_ble_eq_true rfl, Nat.le_of_ble_eq_true rfl⟩) rfl rfl [0, 1] rfl (by decide) hl.1 rfl rfl (Nat.le_of_ble_eq_true rfl) dX8_spendBudget_2 ⟨Nat.le_of_ble_eq_true rfl, Nat.le_of_ble_eq_true rfl⟩ (fun v w1 H locs hq hw => ?_)
  obtain ⟨N1, q2_0, rfl, rfl⟩ := hq
  have hw : lo_Wd X ([oX8 (d 0) (N1 0) (d 1) (d 2) (N1 3) (d 3) (N1 5) (d 4) (d 5) (d 6) (N1 9) (d 7) (N1 11) (N1 12) (N1 13) (N1 14) (N1 15) (N1 16) (N1 17) (N1 18) (N1 19) (N1 20) (N1 21) (N1 22) (N1 23) (N1 24) (N1 25) (N1 26) (N1 27) (N1 28), arI X (d 1) 122 (wAll w (w 0).toNat)]) A9 s9.heap H locs := hw
  refine W.eq (g2 := F0 m9 5 ls [.int (iI (wSum w (w 0).toNat)), .int (iI bu)]) rfl ?_
  refine lo_isub E dX8_spendBudget_5 ?_
  refine lv_istore_n (lv' := [(3, .int (iI (bu - wSum w (w 0).toNat))), (0, .ref (d 0)), (1, .int (iI bu)), (2, .int (iI y))]) Ex Eb dX8_spendBudget_6 rfl hl (by decide) rfl (fun ls hl => ?_)
  refine lv_aload_n Ex Eb dX8_spendBudget_7 rfl (lv_at hl 1 rfl) ?_
  refine lv_iload_n Ex Eb dX8_spendBudget_8 rfl (lv_at hl 3 rfl) ?_
  refine lo_callV (q0 := 0) (rest := []) E hK hw (kX8_nextTarget l X d N1 (wAll w (w 0).toNat) y (hWA.1) (hy)) (cwV 1 E.2.2.2.2 gX8_spendBudget_X8_nextTarget rfl rfl rfl (by decide +kernel) ⟨Nat.le_of_ble_eq_true rfl, Nat.le_of_ble_eq_true rfl⟩) rfl rfl [0, 1] rfl (by decide) hl.1 rfl rfl (Nat.le_of_ble_eq_true rfl) dX8_spendBudget_9 ⟨Nat.le_of_ble_eq_true rfl, Nat.le_of_ble_eq_true rfl⟩ (fun v w1 H locs hq hw => ?_)
  obtain ⟨r2, q9_0, rfl, rfl⟩ := hq
  have hw : lo_Wd X ([oX8 (d 0) (N1 0) (d 1) (d 2) (N1 3) (d 3) (N1 5) (d 4) (d 5) (d 6) (N1 9) (d 7) (N1 11) (N1 12) (N1 13) (N1 14) (N1 15) (N1 16) (N1 17) (N1 18) (N1 19) (N1 20) (N1 21) (N1 22) (N1 23) (N1 24) (N1 25) (N1 26) (N1 27) (N1 28), arI X (d 1) 122 (wAll w (w 0).toNat)]) A9 s9.heap H locs := hw
  refine W.eq (g2 := F0 m9 12 ls [.int (iI r2)]) rfl ?_
  refine lv_istore (lv' := [(4, .int (iI r2)), (3, .int (iI (bu - wSum w (w 0).toNat))), (0, .ref (d 0)), (1, .int (iI bu)), (2, .int (iI y))]) Ex Eb dX8_spendBudget_12 hl (by decide) rfl (fun ls hl => ?_)
  have lp14 : ∀ (n : Nat) (K u : Nat → Int) (re t : Int) (fu : Nat), fu < n → (sameW M K) → (WI u ∧ u 0 = w 0) → (t = wTg y u) → (-70000000 ≤ re ∧ re ≤ 9999999) → (re ≤ 0 ∨ cnt (LWf u) (w 0).toNat ≤ fu) → (wspF y fu u re = wspF y 6 (wAll w (w 0).toNat) (bu - wSum w (w 0).toNat)) → ∀ (H : Heap) (locs : List Loc) (ls : Array Slot), lo_Wd X ([oX8 (d 0) (K 0) (d 1) (d 2) (K 3) (d 3) (K 5) (d 4) (d 5) (d 6) (K 9) (d 7) (K 11) (K 12) (K 13) (K 14) (K 15) (K 16) (K 17) (K 18) (K 19) (K 20) (K 21) (K 22) (K 23) (K 24) (K 25) (K 26) (K 27) (K 28), arI X (d 1) 122 u]) A9 s9.heap H locs → lv_has ls 6 [(0, .ref (d 0)), (1, .int (iI bu)), (2, .int (iI y)), (3, .int (iI re)), (4, .int (iI t))] → W p9 l e9 ({ frames := 6, cells := 0, slots := 0, locals := 151 } : Room) s9 m9 ([.ref (d 0), .int (iI bu), .int (iI y)] : List Value).toArray bl9 me9 c9 H locs 0 0 (MQ bl9 (lo_Qc X ([oX8 (d 0) (M 0) (d 1) (d 2) (M 3) (d 3) (M 5) (d 4) (d 5) (d 6) (M 9) (d 7) (M 11) (M 12) (M 13) (M 14) (M 15) (M 16) (M 17) (M 18) (M 19) (M 20) (M 21) (M 22) (M 23) (M 24) (M 25) (M 26) (M 27) (M 28), arI X (d 1) 122 w]) s9.heap.size (fun v9 w9 => ∃ N : Nat → Int, (sameW M N) ∧ v9 = none ∧ w9 = [oX8 (d 0) (N 0) (d 1) (d 2) (N 3) (d 3) (N 5) (d 4) (d 5) (d 6) (N 9) (d 7) (N 11) (N 12) (N 13) (N 14) (N 15) (N 16) (N 17) (N 18) (N 19) (N 20) (N 21) (N 22) (N 23) (N 24) (N 25) (N 26) (N 27) (N 28), arI X (d 1) 122 (wspF y 6 (wAll w (w 0).toNat) (bu - wSum w (w 0).toNat))])) ([.ref (d 0), .int (iI bu), .int (iI y)] : List Value).toArray s9 0 0 A9) (F0 m9 14 ls []) := by
    intro n
    induction n with
    | zero => intro K u re t fu hn; exact absurd hn (Nat.not_lt_zero _)
    | succ n ih14 =>
      intro K u re t fu hn14 iv14_0 iv14_1 iv14_2 iv14_3 iv14_4 iv14_5 H locs ls hw hl
      have htr := wTg_r y iv14_1.1
      rw [← iv14_2] at htr
      have hu0 := iv14_1.2
      have hu1 := iv14_1.1.2.1
      refine lv_iload Ex Eb dX8_spendBudget_14 (lv_at hl 4 rfl) ?_
      refine lv_iconst (v := iI (-1)) Ex Eb dX8_spendBudget_16 rfl ?_
      refine lo_icmp_eq (tgt := 72) E dX8_spendBudget_17 (by decide) (by omega) (by omega) (fun c3 => ?_) (fun c3 => ?_)
      · skip
        exact lo_vret E hRt hLk hK hAe hw dX8_spendBudget_72 rfl ⟨K, (iv14_0), rfl, by rw [← iv14_5]; first | (rw [wspF_n (show wTg y u = -1 by omega)]) | (rw [wspF_e (by omega)])⟩
      · skip
        refine lv_iload_n Ex Eb dX8_spendBudget_20 rfl (lv_at hl 3 rfl) ?_
        refine lo_if_le (tgt := 72) E dX8_spendBudget_21 (by decide) (by omega) (fun c4 => ?_) (fun c4 => ?_)
        · skip
          exact lo_vret E hRt hLk hK hAe hw dX8_spendBudget_72 rfl ⟨K, (iv14_0), rfl, by rw [← iv14_5]; first | (rw [wspF_n (show wTg y u = -1 by omega)]) | (rw [wspF_e (by omega)])⟩
        · skip
          have hLt := iv14_1.1.2.2 t (by omega) (by omega)
          have hb9 : 0 ≤ wOf u t 1 ∧ wOf u t 1 ≤ 9999999 := hLt.1
          have hc1 := cnt_1 (LWf u) t.toNat (by rw [LWf_i u (by omega)]; show 0 < wOf u t 1; omega) (w 0).toNat (by omega)
          have hWr := fun (x : Int) (h1 : 1 ≤ x) (h2 : x ≤ wOf u t 1) => wRed_WI (kp := 0) (i := t) (a := x) iv14_1.1 (by omega) (by omega) (by omega) h1 h2
          have hcd := wRed_cnt (kp := 0) (i := t) (a := wOf u t 1) iv14_1.1 (by omega) (by omega) (by omega) (by omega) (by omega) rfl
          refine lv_iload_n Ex Eb dX8_spendBudget_24 rfl (lv_at hl 3 rfl) ?_
          refine lv_aload_n Ex Eb dX8_spendBudget_25 rfl (lv_at hl 0 rfl) ?_
          refine lv_iload Ex Eb dX8_spendBudget_26 (lv_at hl 4 rfl) ?_
          refine lv_iconst (v := iI 1) Ex Eb dX8_spendBudget_28 rfl ?_
          refine lo_callV (q0 := 0) (rest := [.int (iI re)]) E hK hw (kX8_of l X d K u t 1 (by omega) (by omega)) (cwV 2 E.2.2.2.2 gX8_spendBudget_X8_of rfl rfl rfl (by decide +kernel) ⟨Nat.le_of_ble_eq_true rfl, Nat.le_of_ble_eq_true rfl⟩) rfl rfl [0, 1] rfl (by decide) hl.1 rfl rfl (Nat.le_of_ble_eq_true rfl) dX8_spendBudget_29 ⟨Nat.le_of_ble_eq_true rfl, Nat.le_of_ble_eq_true rfl⟩ (fun v w1 H locs hq hw => ?_)
          obtain ⟨rfl, rfl⟩ := hq
          have hw : lo_Wd X ([oX8 (d 0) (K 0) (d 1) (d 2) (K 3) (d 3) (K 5) (d 4) (d 5) (d 6) (K 9) (d 7) (K 11) (K 12) (K 13) (K 14) (K 15) (K 16) (K 17) (K 18) (K 19) (K 20) (K 21) (K 22) (K 23) (K 24) (K 25) (K 26) (K 27) (K 28), arI X (d 1) 122 u]) A9 s9.heap H locs := hw
          refine W.eq (g2 := F0 m9 32 ls [.int (iI (wOf u t 1)), .int (iI re)]) rfl ?_
          refine lo_icmp_ge (tgt := 39) E dX8_spendBudget_32 (by decide) (by omega) (by omega) (fun c5 => ?_) (fun c5 => ?_)
          · skip
            refine lv_aload_n Ex Eb dX8_spendBudget_39 rfl (lv_at hl 0 rfl) ?_
            refine lv_iload Ex Eb dX8_spendBudget_40 (lv_at hl 4 rfl) ?_
            refine lv_iconst (v := iI 1) Ex Eb dX8_spendBudget_42 rfl ?_
            refine lo_callV (q0 := 0) (rest := []) E hK hw (kX8_of l X d K u t 1 (by omega) (by omega)) (cwV 2 E.2.2.2.2 gX8_spendBudget_X8_of rfl rfl rfl (by decide +kernel) ⟨Nat.le_of_ble_eq_true rfl, Nat.le_of_ble_eq_true rfl⟩) rfl rfl [0, 1] rfl (by decide) hl.1 rfl rfl (Nat.le_of_ble_eq_true rfl) dX8_spendBudget_43 ⟨Nat.le_of_ble_eq_true rfl, Nat.le_of_ble_eq_true rfl⟩ (fun v w1 H locs hq hw => ?_)
            obtain ⟨rfl, rfl⟩ := hq
            have hw : lo_Wd X ([oX8 (d 0) (K 0) (d 1) (d 2) (K 3) (d 3) (K 5) (d 4) (d 5) (d 6) (K 9) (d 7) (K 11) (K 12) (K 13) (K 14) (K 15) (K 16) (K 17) (K 18) (K 19) (K 20) (K 21) (K 22) (K 23) (K 24) (K 25) (K 26) (K 27) (K 28), arI X (d 1) 122 u]) A9 s9.heap H locs := hw
            refine W.eq (g2 := F0 m9 46 ls [.int (iI (wOf u t 1))]) rfl ?_
            refine lv_istore (lv' := [(5, .int (iI (wOf u t 1))), (0, .ref (d 0)), (1, .int (iI bu)), (2, .int (iI y)), (3, .int (iI re)), (4, .int (iI t))]) Ex Eb dX8_spendBudget_46 hl (by decide) rfl (fun ls hl => ?_)
            refine lv_aload_n Ex Eb dX8_spendBudget_48 rfl (lv_at hl 1 rfl) ?_
            refine lv_iload Ex Eb dX8_spendBudget_49 (lv_at hl 5 rfl) ?_
            refine lv_iload Ex Eb dX8_spendBudget_51 (lv_at hl 0 rfl) ?_
            refine lv_iconst (v := iI 0) Ex Eb dX8_spendBudget_53 rfl ?_
            refine lo_callV (q0 := 0) (rest := []) E hK hw (kX8_extra l X d K u t (wOf u t 1) 0 (by omega) (hLt) (by omega) (by omega) (by omega) (by omega)) (cwV 3 E.2.2.2.2 gX8_spendBudget_X8_extra rfl rfl rfl (by decide +kernel) ⟨Nat.le_of_ble_eq_true rfl, Nat.le_of_ble_eq_true rfl⟩) rfl rfl [0, 1] rfl (by decide) hl.1 rfl rfl (Nat.le_of_ble_eq_true rfl) dX8_spendBudget_54 ⟨Nat.le_of_ble_eq_true rfl, Nat.le_of_ble_eq_true rfl⟩ (fun v w1 H locs hq hw => ?_)
            obtain ⟨N6, q54_0, rfl, rfl⟩ := hq
            have hw : lo_Wd X ([oX8 (d 0) (N6 0) (d 1) (d 2) (N6 3) (d 3) (N6 5) (d 4) (d 5) (d 6) (N6 9) (d 7) (N6 11) (N6 12) (N6 13) (N6 14) (N6 15) (N6 16) (N6 17) (N6 18) (N6 19) (N6 20) (N6 21) (N6 22) (N6 23) (N6 24) (N6 25) (N6 26) (N6 27) (N6 28), arI X (d 1) 122 (wRed u t (wOf u t 1) 0)]) A9 s9.heap H locs := hw
            refine W.eq (g2 := F0 m9 57 ls []) rfl ?_
            refine lv_iload_n Ex Eb dX8_spendBudget_57 rfl (lv_at hl 4 rfl) ?_
            refine lv_iload Ex Eb dX8_spendBudget_58 (lv_at hl 0 rfl) ?_
            refine lo_isub E dX8_spendBudget_60 ?_
            refine lv_istore_n (lv' := [(3, .int (iI (re - wOf u t 1))), (5, .int (iI (wOf u t 1))), (0, .ref (d 0)), (1, .int (iI bu)), (2, .int (iI y)), (4, .int (iI t))]) Ex Eb dX8_spendBudget_61 rfl hl (by decide) rfl (fun ls hl => ?_)
            refine lv_aload_n Ex Eb dX8_spendBudget_62 rfl (lv_at hl 2 rfl) ?_
            refine lv_iload_n Ex Eb dX8_spendBudget_63 rfl (lv_at hl 4 rfl) ?_
            refine lo_callV (q0 := 0) (rest := []) E hK hw (kX8_nextTarget l X d N6 (wRed u t (wOf u t 1) 0) y ((hWr _ (by omega) (by omega)).1) (hy)) (cwV 1 E.2.2.2.2 gX8_spendBudget_X8_nextTarget rfl rfl rfl (by decide +kernel) ⟨Nat.le_of_ble_eq_true rfl, Nat.le_of_ble_eq_true rfl⟩) rfl rfl [0, 1] rfl (by decide) hl.1 rfl rfl (Nat.le_of_ble_eq_true rfl) dX8_spendBudget_64 ⟨Nat.le_of_ble_eq_true rfl, Nat.le_of_ble_eq_true rfl⟩ (fun v w1 H locs hq hw => ?_)
            obtain ⟨r7, q64_0, rfl, rfl⟩ := hq
            have hw : lo_Wd X ([oX8 (d 0) (N6 0) (d 1) (d 2) (N6 3) (d 3) (N6 5) (d 4) (d 5) (d 6) (N6 9) (d 7) (N6 11) (N6 12) (N6 13) (N6 14) (N6 15) (N6 16) (N6 17) (N6 18) (N6 19) (N6 20) (N6 21) (N6 22) (N6 23) (N6 24) (N6 25) (N6 26) (N6 27) (N6 28), arI X (d 1) 122 (wRed u t (wOf u t 1) 0)]) A9 s9.heap H locs := hw
            refine W.eq (g2 := F0 m9 67 ls [.int (iI r7)]) rfl ?_
            refine lv_istore (lv' := [(4, .int (iI r7)), (3, .int (iI (re - wOf u t 1))), (5, .int (iI (wOf u t 1))), (0, .ref (d 0)), (1, .int (iI bu)), (2, .int (iI y))]) Ex Eb dX8_spendBudget_67 hl (by decide) rfl (fun ls hl => ?_)
            refine lv_goto (tgt := 14) Ex Eb dX8_spendBudget_69 (by decide) ?_
            exact ih14 N6 (wRed u t (wOf u t 1) 0) (re - wOf u t 1) r7 (fu - 1) (by omega) (iv14_0.tr q54_0) (⟨(hWr _ (by omega) (by omega)).1, (hWr _ (by omega) (by omega)).2.trans hu0⟩) (wTg_e q64_0) (by omega) (by first | exact Or.inl (by omega) | exact Or.inr (by rw [hu0] at hcd; omega)) (by rw [← iv14_5]; exact (wspF_s (by omega) iv14_2 (by omega) (by omega) (by omega)).symm) _ _ _ hw (lv_sub hl [3, 4, 5, 1, 0] rfl)
          · skip
            refine lv_iload_n Ex Eb dX8_spendBudget_35 rfl (lv_at hl 3 rfl) ?_
            refine lv_goto (tgt := 46) Ex Eb dX8_spendBudget_36 (by decide) ?_
            refine lv_istore (lv' := [(5, .int (iI re)), (0, .ref (d 0)), (1, .int (iI bu)), (2, .int (iI y)), (3, .int (iI re)), (4, .int (iI t))]) Ex Eb dX8_spendBudget_46 hl (by decide) rfl (fun ls hl => ?_)
            refine lv_aload_n Ex Eb dX8_spendBudget_48 rfl (lv_at hl 1 rfl) ?_
            refine lv_iload Ex Eb dX8_spendBudget_49 (lv_at hl 5 rfl) ?_
            refine lv_iload Ex Eb dX8_spendBudget_51 (lv_at hl 0 rfl) ?_
            refine lv_iconst (v := iI 0) Ex Eb dX8_spendBudget_53 rfl ?_
            refine lo_callV (q0 := 0) (rest := []) E hK hw (kX8_extra l X d K u t re 0 (by omega) (hLt) (by omega) (by omega) (by omega) (by omega)) (cwV 3 E.2.2.2.2 gX8_spendBudget_X8_extra rfl rfl rfl (by decide +kernel) ⟨Nat.le_of_ble_eq_true rfl, Nat.le_of_ble_eq_true rfl⟩) rfl rfl [0, 1] rfl (by decide) hl.1 rfl rfl (Nat.le_of_ble_eq_true rfl) dX8_spendBudget_54 ⟨Nat.le_of_ble_eq_true rfl, Nat.le_of_ble_eq_true rfl⟩ (fun v w1 H locs hq hw => ?_)
            obtain ⟨N8, q54_0, rfl, rfl⟩ := hq
            have hw : lo_Wd X ([oX8 (d 0) (N8 0) (d 1) (d 2) (N8 3) (d 3) (N8 5) (d 4) (d 5) (d 6) (N8 9) (d 7) (N8 11) (N8 12) (N8 13) (N8 14) (N8 15) (N8 16) (N8 17) (N8 18) (N8 19) (N8 20) (N8 21) (N8 22) (N8 23) (N8 24) (N8 25) (N8 26) (N8 27) (N8 28), arI X (d 1) 122 (wRed u t re 0)]) A9 s9.heap H locs := hw
            refine W.eq (g2 := F0 m9 57 ls []) rfl ?_
            refine lv_iload_n Ex Eb dX8_spendBudget_57 rfl (lv_at hl 4 rfl) ?_
            refine lv_iload Ex Eb dX8_spendBudget_58 (lv_at hl 0 rfl) ?_
            refine lo_isub E dX8_spendBudget_60 ?_
            refine lv_istore_n (lv' := [(3, .int (iI (re - re))), (5, .int (iI re)), (0, .ref (d 0)), (1, .int (iI bu)), (2, .int (iI y)), (4, .int (iI t))]) Ex Eb dX8_spendBudget_61 rfl hl (by decide) rfl (fun ls hl => ?_)
            refine lv_aload_n Ex Eb dX8_spendBudget_62 rfl (lv_at hl 2 rfl) ?_
            refine lv_iload_n Ex Eb dX8_spendBudget_63 rfl (lv_at hl 4 rfl) ?_
            refine lo_callV (q0 := 0) (rest := []) E hK hw (kX8_nextTarget l X d N8 (wRed u t re 0) y ((hWr _ (by omega) (by omega)).1) (hy)) (cwV 1 E.2.2.2.2 gX8_spendBudget_X8_nextTarget rfl rfl rfl (by decide +kernel) ⟨Nat.le_of_ble_eq_true rfl, Nat.le_of_ble_eq_true rfl⟩) rfl rfl [0, 1] rfl (by decide) hl.1 rfl rfl (Nat.le_of_ble_eq_true rfl) dX8_spendBudget_64 ⟨Nat.le_of_ble_eq_true rfl, Nat.le_of_ble_eq_true rfl⟩ (fun v w1 H locs hq hw => ?_)
            obtain ⟨r9, q64_0, rfl, rfl⟩ := hq
            have hw : lo_Wd X ([oX8 (d 0) (N8 0) (d 1) (d 2) (N8 3) (d 3) (N8 5) (d 4) (d 5) (d 6) (N8 9) (d 7) (N8 11) (N8 12) (N8 13) (N8 14) (N8 15) (N8 16) (N8 17) (N8 18) (N8 19) (N8 20) (N8 21) (N8 22) (N8 23) (N8 24) (N8 25) (N8 26) (N8 27) (N8 28), arI X (d 1) 122 (wRed u t re 0)]) A9 s9.heap H locs := hw
            refine W.eq (g2 := F0 m9 67 ls [.int (iI r9)]) rfl ?_
            refine lv_istore (lv' := [(4, .int (iI r9)), (3, .int (iI (re - re))), (5, .int (iI re)), (0, .ref (d 0)), (1, .int (iI bu)), (2, .int (iI y))]) Ex Eb dX8_spendBudget_67 hl (by decide) rfl (fun ls hl => ?_)
            refine lv_goto (tgt := 14) Ex Eb dX8_spendBudget_69 (by decide) ?_
            exact ih14 N8 (wRed u t re 0) (re - re) r9 (fu - 1) (by omega) (iv14_0.tr q54_0) (⟨(hWr _ (by omega) (by omega)).1, (hWr _ (by omega) (by omega)).2.trans hu0⟩) (wTg_e q64_0) (by omega) (by first | exact Or.inl (by omega) | exact Or.inr (by rw [hu0] at hcd; omega)) (by rw [← iv14_5]; exact (wspF_s (by omega) iv14_2 (by omega) (by omega) (by omega)).symm) _ _ _ hw (lv_sub hl [3, 4, 5, 1, 0] rfl)
  exact lp14 _ N1 (wAll w (w 0).toNat) (bu - wSum w (w 0).toNat) r2 6 (Nat.lt_succ_self _) (q2_0) (⟨hWA.1, hWA.2⟩) (wTg_e q9_0) (by omega) (Or.inr (by have := cnt_m (LWf (wAll w (w 0).toNat)) (w 0).toNat; omega)) (rfl) _ _ _ hw (lv_sub hl [2, 3, 4, 1, 0] rfl)
