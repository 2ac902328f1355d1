set_option maxHeartbeats 4000000 in
set_option maxRecDepth 100000 in
theorem kX8_number (l : Launch) (X : KX) (d : Nat → Nat) (M T : Nat → Int) (lo hi : Int) (ht : 0 ≤ M 9 ∧ M 9 ≤ 500) (hT : ∀ k : Nat, 0 ≤ T k ∧ T k ≤ 255) (ha : 0 ≤ M 20 ∧ M 20 ≤ M 9) (hg : 0 ≤ M 23 ∧ M 23 ≤ 9999999) (he : i32 (M 24)) (hkd : i32 (M 22)) (hlo : i32 lo) (hhi : i32 hi) : CM l X yX8_number wsX8_number ({ frames := 3, cells := 0, slots := 0, locals := 61 }) [.ref (d 0), .int (iI lo), .int (iI hi)] ([oX8 (d 0) (M 0) (d 1) (d 2) (M 3) (d 3) (M 5) (d 4) (d 5) (d 6) (M 9) (d 7) (M 11) (M 12) (M 13) (M 14) (M 15) (M 16) (M 17) (M 18) (M 19) (M 20) (M 21) (M 22) (M 23) (M 24) (M 25) (M 26) (M 27) (M 28), arI X (d 6) 500 T]) (fun v9 w9 => ∃ nb : Int, ∃ na : Int, ∃ nk : Int, ∃ ng : Int, ∃ ek : Int, ∃ eo : Int, ∃ r : Int, ((M 24 = 0 ∧ (M 22 = 2 ∧ lo ≤ M 23 ∧ M 23 ≤ hi) ∧ ek = 0 ∧ eo = M 25 ∧ r = M 23 ∧ nb = spE pSp T (M 9) (M 20) ∧ SCN T (M 9) nb (M 23) na nk ng) ∨ (M 24 = 0 ∧ ((M 22 ≠ 2 ∧ ek = 1) ∨ (M 22 = 2 ∧ ¬ (lo ≤ M 23 ∧ M 23 ≤ hi) ∧ ek = 2)) ∧ eo = M 21 ∧ r = 0 ∧ na = M 20 ∧ nb = M 21 ∧ nk = M 22 ∧ ng = M 23) ∨ (M 24 ≠ 0 ∧ ek = M 24 ∧ eo = M 25 ∧ r = 0 ∧ na = M 20 ∧ nb = M 21 ∧ nk = M 22 ∧ ng = M 23)) ∧ (0 ≤ na ∧ na ≤ M 9 ∧ 0 ≤ ng ∧ ng ≤ 9999999) ∧ v9 = some (.int (iI r)) ∧ w9 = [oX8 (d 0) (M 0) (d 1) (d 2) (M 3) (d 3) (M 5) (d 4) (d 5) (d 6) (M 9) (d 7) (M 11) (M 12) (M 13) (M 14) (M 15) (M 16) (M 17) (M 18) (M 19) na nb nk ng ek eo (M 26) (M 27) (M 28), arI X (d 6) 500 T]) 0 0 := by
  refine lo_enter (cc := cX8_number) (maxL := 4) (ret := (some .int)) (lv := [(0, .ref (d 0)), (1, .int (iI lo)), (2, .int (iI hi))]) (by decide) rfl rfl (Nat.le_of_ble_eq_true rfl) ?_
  intro p9 e9 s9 m9 bl9 me9 c9 A9 ls hAe E hRt hLk hK hl hw
  have Ex := E.1
  have Eb := E.2.1
  have huRX8 : ∀ w ∈ u_ws RX8 TX8 29, w ∈ wsX8_number := by decide +kernel
  have hf205 : (Cond.fieldLink RX8 205 "LoanScheduleModel" "kind" "I").before _ s9 = true := E.2.2.2.2 _ (List.mem_of_getElem? (i := 1) rfl)
  have hf214 : (Cond.fieldLink RX8 214 "LoanScheduleModel" "figure" "I").before _ s9 = true := E.2.2.2.2 _ (List.mem_of_getElem? (i := 2) rfl)
  refine lv_aload_n Ex Eb dX8_number_0 rfl (lv_at hl 0 rfl) ?_
  refine lo_get E hK hw huRX8 22 hf205 rfl 0 rfl rfl (by decide) (v := .int (iI (M 22))) rfl dX8_number_1 ?_
  refine lv_iconst (v := iI 2) Ex Eb dX8_number_4 rfl ?_
  refine lo_icmp_eq (tgt := 16) E dX8_number_5 (by decide) (by omega) (by omega) (fun c1 => ?_) (fun c1 => ?_)
  · skip
    refine lv_aload_n Ex Eb dX8_number_16 rfl (lv_at hl 0 rfl) ?_
    refine lo_get E hK hw huRX8 23 hf214 rfl 0 rfl rfl (by decide) (v := .int (iI (M 23))) rfl dX8_number_17 ?_
    refine lv_iload_n Ex Eb dX8_number_20 rfl (lv_at hl 1 rfl) ?_
    refine lo_icmp_lt (tgt := 32) E dX8_number_21 (by decide) (by omega) (by omega) (fun c2 => ?_) (fun c2 => ?_)
    · skip
      refine lv_aload_n Ex Eb dX8_number_32 rfl (lv_at hl 0 rfl) ?_
      refine lv_iconst (v := iI 2) Ex Eb dX8_number_33 rfl ?_
      refine lo_callV (q0 := 0) (rest := []) E hK hw (kX8_fail l X d M 2 (by omega)) (cwV 1 E.2.2.2.2 gX8_number_X8_fail rfl rfl rfl (by decide +kernel) ⟨Nat.le_of_ble_eq_true rfl, Nat.le_of_ble_eq_true rfl⟩) rfl rfl [0] rfl (by decide) hl.1 rfl rfl (Nat.le_of_ble_eq_true rfl) dX8_number_34 ⟨Nat.le_of_ble_eq_true rfl, Nat.le_of_ble_eq_true rfl⟩ (fun v w1 H locs hq hw => ?_)
      obtain ⟨k3, o4, q34_0, rfl, rfl⟩ := hq
      have hw : lo_Wd X ([oX8 (d 0) (M 0) (d 1) (d 2) (M 3) (d 3) (M 5) (d 4) (d 5) (d 6) (M 9) (d 7) (M 11) (M 12) (M 13) (M 14) (M 15) (M 16) (M 17) (M 18) (M 19) (M 20) (M 21) (M 22) (M 23) k3 o4 (M 26) (M 27) (M 28), arI X (d 6) 500 T]) A9 s9.heap H locs := hw
      refine W.eq (g2 := F0 m9 37 ls []) rfl ?_
      refine lv_aload_n Ex Eb dX8_number_37 rfl (lv_at hl 0 rfl) ?_
      refine lo_get E hK hw huRX8 23 hf214 rfl 0 rfl rfl (by decide) (v := .int (iI (M 23))) rfl dX8_number_38 ?_
      refine lv_istore_n (lv' := [(3, .int (iI (M 23))), (0, .ref (d 0)), (1, .int (iI lo)), (2, .int (iI hi))]) Ex Eb dX8_number_41 rfl hl (by decide) rfl (fun ls hl => ?_)
      refine lv_aload_n Ex Eb dX8_number_42 rfl (lv_at hl 1 rfl) ?_
      refine lo_callV (q0 := 0) (rest := []) E hK hw (kX8_advance l X d (uI (uI M 24 k3) 25 o4) T (ht) (hT) (ha) (hg) (by first | omega | (rw [uI_n (by omega), uI_s]; omega))) (cwV 0 E.2.2.2.2 gX8_number_X8_advance rfl rfl rfl (by decide +kernel) ⟨Nat.le_of_ble_eq_true rfl, Nat.le_of_ble_eq_true rfl⟩) rfl rfl [0, 1] rfl (by decide) hl.1 rfl rfl (Nat.le_of_ble_eq_true rfl) dX8_number_43 ⟨Nat.le_of_ble_eq_true rfl, Nat.le_of_ble_eq_true rfl⟩ (fun v w1 H locs hq hw => ?_)
      obtain ⟨nb5, na6, nk7, ng8, q43_0, q43_1, rfl, rfl⟩ := hq
      change (k3 = 0 ∧ nb5 = spE pSp T ((M 9)) ((M 20)) ∧ SCN T ((M 9)) nb5 ((M 23)) na6 nk7 ng8) ∨ (k3 ≠ 0 ∧ na6 = (M 20) ∧ nb5 = (M 21) ∧ nk7 = (M 22) ∧ ng8 = (M 23)) at q43_0
      change 0 ≤ na6 ∧ na6 ≤ (M 9) ∧ 0 ≤ ng8 ∧ ng8 ≤ 9999999 at q43_1
      have hw : lo_Wd X ([oX8 (d 0) (M 0) (d 1) (d 2) (M 3) (d 3) (M 5) (d 4) (d 5) (d 6) (M 9) (d 7) (M 11) (M 12) (M 13) (M 14) (M 15) (M 16) (M 17) (M 18) (M 19) na6 nb5 nk7 ng8 k3 o4 (M 26) (M 27) (M 28), arI X (d 6) 500 T]) A9 s9.heap H locs := hw
      refine W.eq (g2 := F0 m9 46 ls []) rfl ?_
      refine lv_aload_n Ex Eb dX8_number_46 rfl (lv_at hl 1 rfl) ?_
      refine lo_callV (q0 := 0) (rest := []) E hK hw (kX8_good l X d (uI (uI (uI (uI (uI (uI M 20 na6) 21 nb5) 22 nk7) 23 ng8) 24 k3) 25 o4) (by first | omega | (rw [uI_n (by omega), uI_s]; omega) | (rw [uI_n (by omega), uI_n (by omega), uI_n (by omega), uI_n (by omega)]; omega))) (cwV 0 E.2.2.2.2 gX8_number_X8_good rfl rfl rfl (by decide +kernel) ⟨Nat.le_of_ble_eq_true rfl, Nat.le_of_ble_eq_true rfl⟩) rfl rfl [0] rfl (by decide) hl.1 rfl rfl (Nat.le_of_ble_eq_true rfl) dX8_number_47 ⟨Nat.le_of_ble_eq_true rfl, Nat.le_of_ble_eq_true rfl⟩ (fun v w1 H locs hq hw => ?_)
      obtain ⟨z9, q47_0, rfl, rfl⟩ := hq
      change (z9 = 1 ∧ k3 = 0) ∨ (z9 = 0 ∧ k3 ≠ 0) at q47_0
      have hw : lo_Wd X ([oX8 (d 0) (M 0) (d 1) (d 2) (M 3) (d 3) (M 5) (d 4) (d 5) (d 6) (M 9) (d 7) (M 11) (M 12) (M 13) (M 14) (M 15) (M 16) (M 17) (M 18) (M 19) na6 nb5 nk7 ng8 k3 o4 (M 26) (M 27) (M 28), arI X (d 6) 500 T]) A9 s9.heap H locs := hw
      refine W.eq (g2 := F0 m9 50 ls [.int (iI z9)]) rfl ?_
      refine lo_if_eq (tgt := 57) E dX8_number_50 (by decide) (by omega) (fun c10 => ?_) (fun c10 => ?_)
      · skip
        refine lv_iconst (v := iI 0) Ex Eb dX8_number_57 rfl ?_
        exact lo_iret E hRt hLk hK hAe hw dX8_number_58 rfl ⟨nb5, na6, nk7, ng8, k3, o4, 0, (by (try (rcases q10_0 with h10 | h10)) <;> (try (rcases q34_0 with h34 | h34)) <;> (rcases q43_0 with ⟨g1, g2, g3⟩ | g43) <;> (rcases q47_0 with h47 | h47) <;> first | (exfalso; omega) | exact Or.inl ⟨by omega, by omega, by omega, by omega, by omega, g2, g3⟩ | exact Or.inr (Or.inl ⟨by omega, by omega, by omega, by omega, by omega⟩) | exact Or.inr (Or.inr ⟨by omega, by omega, by omega, by omega, by omega⟩)), (by omega), rfl, rfl⟩
      · skip
        refine lv_iload_n Ex Eb dX8_number_53 rfl (lv_at hl 0 rfl) ?_
        refine lv_goto (tgt := 58) Ex Eb dX8_number_54 (by decide) ?_
        exact lo_iret E hRt hLk hK hAe hw dX8_number_58 rfl ⟨nb5, na6, nk7, ng8, k3, o4, M 23, (by (try (rcases q10_0 with h10 | h10)) <;> (try (rcases q34_0 with h34 | h34)) <;> (rcases q43_0 with ⟨g1, g2, g3⟩ | g43) <;> (rcases q47_0 with h47 | h47) <;> first | (exfalso; omega) | exact Or.inl ⟨by omega, by omega, by omega, by omega, by omega, g2, g3⟩ | exact Or.inr (Or.inl ⟨by omega, by omega, by omega, by omega, by omega⟩) | exact Or.inr (Or.inr ⟨by omega, by omega, by omega, by omega, by omega⟩)), (by omega), rfl, rfl⟩
    · skip
      refine lv_aload_n Ex Eb dX8_number_24 rfl (lv_at hl 0 rfl) ?_
      refine lo_get E hK hw huRX8 23 hf214 rfl 0 rfl rfl (by decide) (v := .int (iI (M 23))) rfl dX8_number_25 ?_
      refine lv_iload_n Ex Eb dX8_number_28 rfl (lv_at hl 2 rfl) ?_
      refine lo_icmp_le (tgt := 37) E dX8_number_29 (by decide) (by omega) (by omega) (fun c11 => ?_) (fun c11 => ?_)
      · skip
        refine lv_aload_n Ex Eb dX8_number_37 rfl (lv_at hl 0 rfl) ?_
        refine lo_get E hK hw huRX8 23 hf214 rfl 0 rfl rfl (by decide) (v := .int (iI (M 23))) rfl dX8_number_38 ?_
        refine lv_istore_n (lv' := [(3, .int (iI (M 23))), (0, .ref (d 0)), (1, .int (iI lo)), (2, .int (iI hi))]) Ex Eb dX8_number_41 rfl hl (by decide) rfl (fun ls hl => ?_)
        refine lv_aload_n Ex Eb dX8_number_42 rfl (lv_at hl 1 rfl) ?_
        refine lo_callV (q0 := 0) (rest := []) E hK hw (kX8_advance l X d M T (ht) (hT) (ha) (hg) (by first | omega | (rw [uI_n (by omega), uI_s]; omega))) (cwV 0 E.2.2.2.2 gX8_number_X8_advance rfl rfl rfl (by decide +kernel) ⟨Nat.le_of_ble_eq_true rfl, Nat.le_of_ble_eq_true rfl⟩) rfl rfl [0, 1] rfl (by decide) hl.1 rfl rfl (Nat.le_of_ble_eq_true rfl) dX8_number_43 ⟨Nat.le_of_ble_eq_true rfl, Nat.le_of_ble_eq_true rfl⟩ (fun v w1 H locs hq hw => ?_)
        obtain ⟨nb12, na13, nk14, ng15, q43_0, q43_1, rfl, rfl⟩ := hq
        have hw : lo_Wd X ([oX8 (d 0) (M 0) (d 1) (d 2) (M 3) (d 3) (M 5) (d 4) (d 5) (d 6) (M 9) (d 7) (M 11) (M 12) (M 13) (M 14) (M 15) (M 16) (M 17) (M 18) (M 19) na13 nb12 nk14 ng15 (M 24) (M 25) (M 26) (M 27) (M 28), arI X (d 6) 500 T]) A9 s9.heap H locs := hw
        refine W.eq (g2 := F0 m9 46 ls []) rfl ?_
        refine lv_aload_n Ex Eb dX8_number_46 rfl (lv_at hl 1 rfl) ?_
        refine lo_callV (q0 := 0) (rest := []) E hK hw (kX8_good l X d (uI (uI (uI (uI M 20 na13) 21 nb12) 22 nk14) 23 ng15) (by first | omega | (rw [uI_n (by omega), uI_s]; omega) | (rw [uI_n (by omega), uI_n (by omega), uI_n (by omega), uI_n (by omega)]; omega))) (cwV 0 E.2.2.2.2 gX8_number_X8_good rfl rfl rfl (by decide +kernel) ⟨Nat.le_of_ble_eq_true rfl, Nat.le_of_ble_eq_true rfl⟩) rfl rfl [0] rfl (by decide) hl.1 rfl rfl (Nat.le_of_ble_eq_true rfl) dX8_number_47 ⟨Nat.le_of_ble_eq_true rfl, Nat.le_of_ble_eq_true rfl⟩ (fun v w1 H locs hq hw => ?_)
        obtain ⟨z16, q47_0, rfl, rfl⟩ := hq
        change (z16 = 1 ∧ (M 24) = 0) ∨ (z16 = 0 ∧ (M 24) ≠ 0) at q47_0
        have hw : lo_Wd X ([oX8 (d 0) (M 0) (d 1) (d 2) (M 3) (d 3) (M 5) (d 4) (d 5) (d 6) (M 9) (d 7) (M 11) (M 12) (M 13) (M 14) (M 15) (M 16) (M 17) (M 18) (M 19) na13 nb12 nk14 ng15 (M 24) (M 25) (M 26) (M 27) (M 28), arI X (d 6) 500 T]) A9 s9.heap H locs := hw
        refine W.eq (g2 := F0 m9 50 ls [.int (iI z16)]) rfl ?_
        refine lo_if_eq (tgt := 57) E dX8_number_50 (by decide) (by omega) (fun c17 => ?_) (fun c17 => ?_)
        · skip
          refine lv_iconst (v := iI 0) Ex Eb dX8_number_57 rfl ?_
          exact lo_iret E hRt hLk hK hAe hw dX8_number_58 rfl ⟨nb12, na13, nk14, ng15, M 24, M 25, 0, (by (try (rcases q10_0 with h10 | h10)) <;> (try (rcases q34_0 with h34 | h34)) <;> (rcases q43_0 with ⟨g1, g2, g3⟩ | g43) <;> (rcases q47_0 with h47 | h47) <;> first | (exfalso; omega) | exact Or.inl ⟨by omega, by omega, by omega, by omega, by omega, g2, g3⟩ | exact Or.inr (Or.inl ⟨by omega, by omega, by omega, by omega, by omega⟩) | exact Or.inr (Or.inr ⟨by omega, by omega, by omega, by omega, by omega⟩)), (by omega), rfl, rfl⟩
        · skip
          refine lv_iload_n Ex Eb dX8_number_53 rfl (lv_at hl 0 rfl) ?_
          refine lv_goto (tgt := 58) Ex Eb dX8_number_54 (by decide) ?_
          exact lo_iret E hRt hLk hK hAe hw dX8_number_58 rfl ⟨nb12, na13, nk14, ng15, M 24, M 25, M 23, (by (try (rcases q10_0 with h10 | h10)) <;> (try (rcases q34_0 with h34 | h34)) <;> (rcases q43_0 with ⟨g1, g2, g3⟩ | g43) <;> (rcases q47_0 with h47 | h47) <;> first | (exfalso; omega) | exact Or.inl ⟨by omega, by omega, by omega, by omega, by omega, g2, g3⟩ | exact Or.inr (Or.inl ⟨by omega, by omega, by omega, by omega, by omega⟩) | exact Or.inr (Or.inr ⟨by omega, by omega, by omega, by omega, by omega⟩)), (by omega), rfl, rfl⟩
      · skip
        refine lv_aload_n Ex Eb dX8_number_32 rfl (lv_at hl 0 rfl) ?_
        refine lv_iconst (v := iI 2) Ex Eb dX8_number_33 rfl ?_
        refine lo_callV (q0 := 0) (rest := []) E hK hw (kX8_fail l X d M 2 (by omega)) (cwV 1 E.2.2.2.2 gX8_number_X8_fail rfl rfl rfl (by decide +kernel) ⟨Nat.le_of_ble_eq_true rfl, Nat.le_of_ble_eq_true rfl⟩) rfl rfl [0] rfl (by decide) hl.1 rfl rfl (Nat.le_of_ble_eq_true rfl) dX8_number_34 ⟨Nat.le_of_ble_eq_true rfl, Nat.le_of_ble_eq_true rfl⟩ (fun v w1 H locs hq hw => ?_)
        obtain ⟨k18, o19, q34_0, rfl, rfl⟩ := hq
        have hw : lo_Wd X ([oX8 (d 0) (M 0) (d 1) (d 2) (M 3) (d 3) (M 5) (d 4) (d 5) (d 6) (M 9) (d 7) (M 11) (M 12) (M 13) (M 14) (M 15) (M 16) (M 17) (M 18) (M 19) (M 20) (M 21) (M 22) (M 23) k18 o19 (M 26) (M 27) (M 28), arI X (d 6) 500 T]) A9 s9.heap H locs := hw
        refine W.eq (g2 := F0 m9 37 ls []) rfl ?_
        refine lv_aload_n Ex Eb dX8_number_37 rfl (lv_at hl 0 rfl) ?_
        refine lo_get E hK hw huRX8 23 hf214 rfl 0 rfl rfl (by decide) (v := .int (iI (M 23))) rfl dX8_number_38 ?_
        refine lv_istore_n (lv' := [(3, .int (iI (M 23))), (0, .ref (d 0)), (1, .int (iI lo)), (2, .int (iI hi))]) Ex Eb dX8_number_41 rfl hl (by decide) rfl (fun ls hl => ?_)
        refine lv_aload_n Ex Eb dX8_number_42 rfl (lv_at hl 1 rfl) ?_
        refine lo_callV (q0 := 0) (rest := []) E hK hw (kX8_advance l X d (uI (uI M 24 k18) 25 o19) T (ht) (hT) (ha) (hg) (by first | omega | (rw [uI_n (by omega), uI_s]; omega))) (cwV 0 E.2.2.2.2 gX8_number_X8_advance rfl rfl rfl (by decide +kernel) ⟨Nat.le_of_ble_eq_true rfl, Nat.le_of_ble_eq_true rfl⟩) rfl rfl [0, 1] rfl (by decide) hl.1 rfl rfl (Nat.le_of_ble_eq_true rfl) dX8_number_43 ⟨Nat.le_of_ble_eq_true rfl, Nat.le_of_ble_eq_true rfl⟩ (fun v w1 H locs hq hw => ?_)
        obtain ⟨nb20, na21, nk22, ng23, q43_0, q43_1, rfl, rfl⟩ := hq
        change (k18 = 0 ∧ nb20 = spE pSp T ((M 9)) ((M 20)) ∧ SCN T ((M 9)) nb20 ((M 23)) na21 nk22 ng23) ∨ (k18 ≠ 0 ∧ na21 = (M 20) ∧ nb20 = (M 21) ∧ nk22 = (M 22) ∧ ng23 = (M 23)) at q43_0
        change 0 ≤ na21 ∧ na21 ≤ (M 9) ∧ 0 ≤ ng23 ∧ ng23 ≤ 9999999 at q43_1
        have hw : lo_Wd X ([oX8 (d 0) (M 0) (d 1) (d 2) (M 3) (d 3) (M 5) (d 4) (d 5) (d 6) (M 9) (d 7) (M 11) (M 12) (M 13) (M 14) (M 15) (M 16) (M 17) (M 18) (M 19) na21 nb20 nk22 ng23 k18 o19 (M 26) (M 27) (M 28), arI X (d 6) 500 T]) A9 s9.heap H locs := hw
        refine W.eq (g2 := F0 m9 46 ls []) rfl ?_
        refine lv_aload_n Ex Eb dX8_number_46 rfl (lv_at hl 1 rfl) ?_
        refine lo_callV (q0 := 0) (rest := []) E hK hw (kX8_good l X d (uI (uI (uI (uI (uI (uI M 20 na21) 21 nb20) 22 nk22) 23 ng23) 24 k18) 25 o19) (by first | omega | (rw [uI_n (by omega), uI_s]; omega) | (rw [uI_n (by omega), uI_n (by omega), uI_n (by omega), uI_n (by omega)]; omega))) (cwV 0 E.2.2.2.2 gX8_number_X8_good rfl rfl rfl (by decide +kernel) ⟨Nat.le_of_ble_eq_true rfl, Nat.le_of_ble_eq_true rfl⟩) rfl rfl [0] rfl (by decide) hl.1 rfl rfl (Nat.le_of_ble_eq_true rfl) dX8_number_47 ⟨Nat.le_of_ble_eq_true rfl, Nat.le_of_ble_eq_true rfl⟩ (fun v w1 H locs hq hw => ?_)
        obtain ⟨z24, q47_0, rfl, rfl⟩ := hq
        change (z24 = 1 ∧ k18 = 0) ∨ (z24 = 0 ∧ k18 ≠ 0) at q47_0
        have hw : lo_Wd X ([oX8 (d 0) (M 0) (d 1) (d 2) (M 3) (d 3) (M 5) (d 4) (d 5) (d 6) (M 9) (d 7) (M 11) (M 12) (M 13) (M 14) (M 15) (M 16) (M 17) (M 18) (M 19) na21 nb20 nk22 ng23 k18 o19 (M 26) (M 27) (M 28), arI X (d 6) 500 T]) A9 s9.heap H locs := hw
        refine W.eq (g2 := F0 m9 50 ls [.int (iI z24)]) rfl ?_
        refine lo_if_eq (tgt := 57) E dX8_number_50 (by decide) (by omega) (fun c25 => ?_) (fun c25 => ?_)
        · skip
          refine lv_iconst (v := iI 0) Ex Eb dX8_number_57 rfl ?_
          exact lo_iret E hRt hLk hK hAe hw dX8_number_58 rfl ⟨nb20, na21, nk22, ng23, k18, o19, 0, (by (try (rcases q10_0 with h10 | h10)) <;> (try (rcases q34_0 with h34 | h34)) <;> (rcases q43_0 with ⟨g1, g2, g3⟩ | g43) <;> (rcases q47_0 with h47 | h47) <;> first | (exfalso; omega) | exact Or.inl ⟨by omega, by omega, by omega, by omega, by omega, g2, g3⟩ | exact Or.inr (Or.inl ⟨by omega, by omega, by omega, by omega, by omega⟩) | exact Or.inr (Or.inr ⟨by omega, by omega, by omega, by omega, by omega⟩)), (by omega), rfl, rfl⟩
        · skip
          refine lv_iload_n Ex Eb dX8_number_53 rfl (lv_at hl 0 rfl) ?_
          refine lv_goto (tgt := 58) Ex Eb dX8_number_54 (by decide) ?_
          exact lo_iret E hRt hLk hK hAe hw dX8_number_58 rfl ⟨nb20, na21, nk22, ng23, k18, o19, M 23, (by (try (rcases q10_0 with h10 | h10)) <;> (try (rcases q34_0 with h34 | h34)) <;> (rcases q43_0 with ⟨g1, g2, g3⟩ | g43) <;> (rcases q47_0 with h47 | h47) <;> first | (exfalso; omega) | exact Or.inl ⟨by omega, by omega, by omega, by omega, by omega, g2, g3⟩ | exact Or.inr (Or.inl ⟨by omega, by omega, by omega, by omega, by omega⟩) | exact Or.inr (Or.inr ⟨by omega, by omega, by omega, by omega, by omega⟩)), (by omega), rfl, rfl⟩
  · skip
    refine lv_aload_n Ex Eb dX8_number_8 rfl (lv_at hl 0 rfl) ?_
    refine lv_iconst (v := iI 1) Ex Eb dX8_number_9 rfl ?_
    refine lo_callV (q0 := 0) (rest := []) E hK hw (kX8_fail l X d M 1 (by omega)) (cwV 1 E.2.2.2.2 gX8_number_X8_fail rfl rfl rfl (by decide +kernel) ⟨Nat.le_of_ble_eq_true rfl, Nat.le_of_ble_eq_true rfl⟩) rfl rfl [0] rfl (by decide) hl.1 rfl rfl (Nat.le_of_ble_eq_true rfl) dX8_number_10 ⟨Nat.le_of_ble_eq_true rfl, Nat.le_of_ble_eq_true rfl⟩ (fun v w1 H locs hq hw => ?_)
    obtain ⟨k26, o27, q10_0, rfl, rfl⟩ := hq
    have hw : lo_Wd X ([oX8 (d 0) (M 0) (d 1) (d 2) (M 3) (d 3) (M 5) (d 4) (d 5) (d 6) (M 9) (d 7) (M 11) (M 12) (M 13) (M 14) (M 15) (M 16) (M 17) (M 18) (M 19) (M 20) (M 21) (M 22) (M 23) k26 o27 (M 26) (M 27) (M 28), arI X (d 6) 500 T]) A9 s9.heap H locs := hw
    refine W.eq (g2 := F0 m9 13 ls []) rfl ?_
    refine lv_goto (tgt := 37) Ex Eb dX8_number_13 (by decide) ?_
    refine lv_aload_n Ex Eb dX8_number_37 rfl (lv_at hl 0 rfl) ?_
    refine lo_get E hK hw huRX8 23 hf214 rfl 0 rfl rfl (by decide) (v := .int (iI (M 23))) rfl dX8_number_38 ?_
    refine lv_istore_n (lv' := [(3, .int (iI (M 23))), (0, .ref (d 0)), (1, .int (iI lo)), (2, .int (iI hi))]) Ex Eb dX8_number_41 rfl hl (by decide) rfl (fun ls hl => ?_)
    refine lv_aload_n Ex Eb dX8_number_42 rfl (lv_at hl 1 rfl) ?_
    refine lo_callV (q0 := 0) (rest := []) E hK hw (kX8_advance l X d (uI (uI M 24 k26) 25 o27) T (ht) (hT) (ha) (hg) (by first | omega | (rw [uI_n (by omega), uI_s]; omega))) (cwV 0 E.2.2.2.2 gX8_number_X8_advance rfl rfl rfl (by decide +kernel) ⟨Nat.le_of_ble_eq_true rfl, Nat.le_of_ble_eq_true rfl⟩) rfl rfl [0, 1] rfl (by decide) hl.1 rfl rfl (Nat.le_of_ble_eq_true rfl) dX8_number_43 ⟨Nat.le_of_ble_eq_true rfl, Nat.le_of_ble_eq_true rfl⟩ (fun v w1 H locs hq hw => ?_)
    obtain ⟨nb28, na29, nk30, ng31, q43_0, q43_1, rfl, rfl⟩ := hq
    change (k26 = 0 ∧ nb28 = spE pSp T ((M 9)) ((M 20)) ∧ SCN T ((M 9)) nb28 ((M 23)) na29 nk30 ng31) ∨ (k26 ≠ 0 ∧ na29 = (M 20) ∧ nb28 = (M 21) ∧ nk30 = (M 22) ∧ ng31 = (M 23)) at q43_0
    change 0 ≤ na29 ∧ na29 ≤ (M 9) ∧ 0 ≤ ng31 ∧ ng31 ≤ 9999999 at q43_1
    have hw : lo_Wd X ([oX8 (d 0) (M 0) (d 1) (d 2) (M 3) (d 3) (M 5) (d 4) (d 5) (d 6) (M 9) (d 7) (M 11) (M 12) (M 13) (M 14) (M 15) (M 16) (M 17) (M 18) (M 19) na29 nb28 nk30 ng31 k26 o27 (M 26) (M 27) (M 28), arI X (d 6) 500 T]) A9 s9.heap H locs := hw
    refine W.eq (g2 := F0 m9 46 ls []) rfl ?_
    refine lv_aload_n Ex Eb dX8_number_46 rfl (lv_at hl 1 rfl) ?_
    refine lo_callV (q0 := 0) (rest := []) E hK hw (kX8_good l X d (uI (uI (uI (uI (uI (uI M 20 na29) 21 nb28) 22 nk30) 23 ng31) 24 k26) 25 o27) (by first | omega | (rw [uI_n (by omega), uI_s]; omega) | (rw [uI_n (by omega), uI_n (by omega), uI_n (by omega), uI_n (by omega)]; omega))) (cwV 0 E.2.2.2.2 gX8_number_X8_good rfl rfl rfl (by decide +kernel) ⟨Nat.le_of_ble_eq_true rfl, Nat.le_of_ble_eq_true rfl⟩) rfl rfl [0] rfl (by decide) hl.1 rfl rfl (Nat.le_of_ble_eq_true rfl) dX8_number_47 ⟨Nat.le_of_ble_eq_true rfl, Nat.le_of_ble_eq_true rfl⟩ (fun v w1 H locs hq hw => ?_)
    obtain ⟨z32, q47_0, rfl, rfl⟩ := hq
    change (z32 = 1 ∧ k26 = 0) ∨ (z32 = 0 ∧ k26 ≠ 0) at q47_0
    have hw : lo_Wd X ([oX8 (d 0) (M 0) (d 1) (d 2) (M 3) (d 3) (M 5) (d 4) (d 5) (d 6) (M 9) (d 7) (M 11) (M 12) (M 13) (M 14) (M 15) (M 16) (M 17) (M 18) (M 19) na29 nb28 nk30 ng31 k26 o27 (M 26) (M 27) (M 28), arI X (d 6) 500 T]) A9 s9.heap H locs := hw
    refine W.eq (g2 := F0 m9 50 ls [.int (iI z32)]) rfl ?_
    refine lo_if_eq (tgt := 57) E dX8_number_50 (by decide) (by omega) (fun c33 => ?_) (fun c33 => ?_)
    · skip
      refine lv_iconst (v := iI 0) Ex Eb dX8_number_57 rfl ?_
      exact lo_iret E hRt hLk hK hAe hw dX8_number_58 rfl ⟨nb28, na29, nk30, ng31, k26, o27, 0, (by (try (rcases q10_0 with h10 | h10)) <;> (try (rcases q34_0 with h34 | h34)) <;> (rcases q43_0 with ⟨g1, g2, g3⟩ | g43) <;> (rcases q47_0 with h47 | h47) <;> first | (exfalso; omega) | exact Or.inl ⟨by omega, by omega, by omega, by omega, by omega, g2, g3⟩ | exact Or.inr (Or.inl ⟨by omega, by omega, by omega, by omega, by omega⟩) | exact Or.inr (Or.inr ⟨by omega, by omega, by omega, by omega, by omega⟩)), (by omega), rfl, rfl⟩
    · skip
      refine lv_iload_n Ex Eb dX8_number_53 rfl (lv_at hl 0 rfl) ?_
      refine lv_goto (tgt := 58) Ex Eb dX8_number_54 (by decide) ?_
      exact lo_iret E hRt hLk hK hAe hw dX8_number_58 rfl ⟨nb28, na29, nk30, ng31, k26, o27, M 23, (by (try (rcases q10_0 with h10 | h10)) <;> (try (rcases q34_0 with h34 | h34)) <;> (rcases q43_0 with ⟨g1, g2, g3⟩ | g43) <;> (rcases q47_0 with h47 | h47) <;> first | (exfalso; omega) | exact Or.inl ⟨by omega, by omega, by omega, by omega, by omega, g2, g3⟩ | exact Or.inr (Or.inl ⟨by omega, by omega, by omega, by omega, by omega⟩) | exact Or.inr (Or.inr ⟨by omega, by omega, by omega, by omega, by omega⟩)), (by omega), rfl, rfl⟩
