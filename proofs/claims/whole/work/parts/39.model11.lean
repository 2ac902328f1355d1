set_option maxHeartbeats 4000000 in
set_option maxRecDepth 100000 in
theorem kX8_scan (l : Launch) (X : KX) (d : Nat → Nat) (M T : Nat → Int) (ht : 0 ≤ M 9 ∧ M 9 ≤ 500) (hT : ∀ k : Nat, 0 ≤ T k ∧ T k ≤ 255) (ha : 0 ≤ M 20 ∧ M 20 ≤ M 9) (hg : 0 ≤ M 23 ∧ M 23 ≤ 9999999) : CM l X yX8_scan wsX8_scan ({ frames := 1, cells := 0, slots := 0, locals := 21 }) [.ref (d 0)] ([oX8 (d 0) (M 0) (d 1) (d 2) (M 3) (d 3) (M 5) (d 4) (d 5) (d 6) (M 9) (d 7) (M 11) (M 12) (M 13) (M 14) (M 15) (M 16) (M 17) (M 18) (M 19) (M 20) (M 21) (M 22) (M 23) (M 24) (M 25) (M 26) (M 27) (M 28), arI X (d 6) 500 T]) (fun v9 w9 => ∃ na : Int, ∃ nk : Int, ∃ ng : Int, (SCN T (M 9) (spE pSp T (M 9) (M 20)) (M 23) na nk ng) ∧ ((M 20 ≤ spE pSp T (M 9) (M 20) ∧ spE pSp T (M 9) (M 20) ≤ na ∧ na ≤ M 9) ∧ 0 ≤ ng ∧ ng ≤ 9999999) ∧ v9 = none ∧ w9 = [oX8 (d 0) (M 0) (d 1) (d 2) (M 3) (d 3) (M 5) (d 4) (d 5) (d 6) (M 9) (d 7) (M 11) (M 12) (M 13) (M 14) (M 15) (M 16) (M 17) (M 18) (M 19) na (spE pSp T (M 9) (M 20)) nk ng (M 24) (M 25) (M 26) (M 27) (M 28), arI X (d 6) 500 T]) 0 0 := by
  refine lo_enter (cc := cX8_scan) (maxL := 1) (ret := none) (lv := [(0, .ref (d 0))]) (by decide) rfl rfl (Nat.le_of_ble_eq_true rfl) ?_
  intro p9 e9 s9 m9 bl9 me9 c9 A9 ls hAe E hRt hLk hK hl hw
  have Ex := E.1
  have Eb := E.2.1
  have huRX8 : ∀ w ∈ u_ws RX8 TX8 29, w ∈ wsX8_scan := by decide +kernel
  have hf199 : (Cond.fieldLink RX8 199 "LoanScheduleModel" "at" "I").before _ s9 = true := E.2.2.2.2 _ (List.mem_of_getElem? (i := 1) rfl)
  have hf196 : (Cond.fieldLink RX8 196 "LoanScheduleModel" "typed" "I").before _ s9 = true := E.2.2.2.2 _ (List.mem_of_getElem? (i := 2) rfl)
  have hf202 : (Cond.fieldLink RX8 202 "LoanScheduleModel" "from" "I").before _ s9 = true := E.2.2.2.2 _ (List.mem_of_getElem? (i := 4) rfl)
  have hf27 : (Cond.fieldLink RX8 27 "LoanScheduleModel" "text" "[I").before _ s9 = true := E.2.2.2.2 _ (List.mem_of_getElem? (i := 3) rfl)
  have hf205 : (Cond.fieldLink RX8 205 "LoanScheduleModel" "kind" "I").before _ s9 = true := E.2.2.2.2 _ (List.mem_of_getElem? (i := 5) rfl)
  have hf214 : (Cond.fieldLink RX8 214 "LoanScheduleModel" "figure" "I").before _ s9 = true := E.2.2.2.2 _ (List.mem_of_getElem? (i := 6) rfl)
  have lp0 : ∀ (n : Nat) (x : Int), (M 9 - x).toNat < n → (M 20 ≤ x ∧ x ≤ M 9) → (spE pSp T (M 9) x = spE pSp T (M 9) (M 20)) → ∀ (H : Heap) (locs : List Loc) (ls : Array Slot), lo_Wd X ([oX8 (d 0) (M 0) (d 1) (d 2) (M 3) (d 3) (M 5) (d 4) (d 5) (d 6) (M 9) (d 7) (M 11) (M 12) (M 13) (M 14) (M 15) (M 16) (M 17) (M 18) (M 19) x (M 21) (M 22) (M 23) (M 24) (M 25) (M 26) (M 27) (M 28), arI X (d 6) 500 T]) A9 s9.heap H locs → lv_has ls 1 [(0, .ref (d 0))] → W p9 l e9 ({ frames := 1, cells := 0, slots := 0, locals := 21 } : Room) s9 m9 ([.ref (d 0)] : List Value).toArray bl9 me9 c9 H locs 0 0 (MQ bl9 (lo_Qc X ([oX8 (d 0) (M 0) (d 1) (d 2) (M 3) (d 3) (M 5) (d 4) (d 5) (d 6) (M 9) (d 7) (M 11) (M 12) (M 13) (M 14) (M 15) (M 16) (M 17) (M 18) (M 19) (M 20) (M 21) (M 22) (M 23) (M 24) (M 25) (M 26) (M 27) (M 28), arI X (d 6) 500 T]) s9.heap.size (fun v9 w9 => ∃ na : Int, ∃ nk : Int, ∃ ng : Int, (SCN T (M 9) (spE pSp T (M 9) (M 20)) (M 23) na nk ng) ∧ ((M 20 ≤ spE pSp T (M 9) (M 20) ∧ spE pSp T (M 9) (M 20) ≤ na ∧ na ≤ M 9) ∧ 0 ≤ ng ∧ ng ≤ 9999999) ∧ v9 = none ∧ w9 = [oX8 (d 0) (M 0) (d 1) (d 2) (M 3) (d 3) (M 5) (d 4) (d 5) (d 6) (M 9) (d 7) (M 11) (M 12) (M 13) (M 14) (M 15) (M 16) (M 17) (M 18) (M 19) na (spE pSp T (M 9) (M 20)) nk ng (M 24) (M 25) (M 26) (M 27) (M 28), arI X (d 6) 500 T])) ([.ref (d 0)] : List Value).toArray s9 0 0 A9) (F0 m9 0 ls []) := by
    intro n
    induction n with
    | zero => intro x hn; exact absurd hn (Nat.not_lt_zero _)
    | succ n ih0 =>
      intro x hn0 iv0_0 iv0_1 H locs ls hw hl
      have hTx := hT x.toNat
      refine lv_aload_n Ex Eb dX8_scan_0 rfl (lv_at hl 0 rfl) ?_
      refine lo_get E hK hw huRX8 20 hf199 rfl 0 rfl rfl (by decide) (v := .int (iI x)) rfl dX8_scan_1 ?_
      refine lv_aload_n Ex Eb dX8_scan_4 rfl (lv_at hl 0 rfl) ?_
      refine lo_get E hK hw huRX8 9 hf196 rfl 0 rfl rfl (by decide) (v := .int (iI (M 9))) rfl dX8_scan_5 ?_
      refine lo_icmp_ge (tgt := 52) E dX8_scan_8 (by decide) (by omega) (by omega) (fun c1 => ?_) (fun c1 => ?_)
      · skip
        have hbe : spE pSp T (M 9) (M 20) = x := by first | (rw [← iv0_1, spE_e (fun h => by have h2 := h.2; change T x.toNat = 32 ∨ T x.toNat = 10 at h2; omega)]) | (rw [← iv0_1, spE_e (fun h => by omega)])
        refine lv_aload_n Ex Eb dX8_scan_52 rfl (lv_at hl 0 rfl) ?_
        refine lv_aload_n Ex Eb dX8_scan_53 rfl (lv_at hl 0 rfl) ?_
        refine lo_get E hK hw huRX8 20 hf199 rfl 0 rfl rfl (by decide) (v := .int (iI x)) rfl dX8_scan_54 ?_
        refine lo_put E hK hw huRX8 tyX8 tyX8_ok nmX8 21 hf202 rfl 0 rfl rfl (by decide) rfl rfl rfl rfl (Nat.le_of_ble_eq_true rfl) (ws' := [oX8 (d 0) (M 0) (d 1) (d 2) (M 3) (d 3) (M 5) (d 4) (d 5) (d 6) (M 9) (d 7) (M 11) (M 12) (M 13) (M 14) (M 15) (M 16) (M 17) (M 18) (M 19) x x (M 22) (M 23) (M 24) (M 25) (M 26) (M 27) (M 28), arI X (d 6) 500 T]) rfl dX8_scan_57 (fun H locs hw => ?_)
        refine lv_aload_n Ex Eb dX8_scan_60 rfl (lv_at hl 0 rfl) ?_
        refine lo_get E hK hw huRX8 20 hf199 rfl 0 rfl rfl (by decide) (v := .int (iI x)) rfl dX8_scan_61 ?_
        refine lv_aload_n Ex Eb dX8_scan_64 rfl (lv_at hl 0 rfl) ?_
        refine lo_get E hK hw huRX8 9 hf196 rfl 0 rfl rfl (by decide) (v := .int (iI (M 9))) rfl dX8_scan_65 ?_
        refine lo_icmp_ne (tgt := 79) E dX8_scan_68 (by decide) (by omega) (by omega) (fun c2 => ?_) (fun c2 => ?_)
        · skip
          refine lv_aload_n Ex Eb dX8_scan_79 rfl (lv_at hl 0 rfl) ?_
          refine lv_aload_n Ex Eb dX8_scan_80 rfl (lv_at hl 0 rfl) ?_
          refine lo_get E hK hw huRX8 20 hf199 rfl 0 rfl rfl (by decide) (v := .int (iI x)) rfl dX8_scan_81 ?_
          refine lo_callV (q0 := 0) (rest := []) E hK hw (kX8_letterAt l X d (uI (uI M 20 x) 21 x) T x (ht) (hT) (by omega)) (cwV 1 E.2.2.2.2 gX8_scan_X8_letterAt rfl rfl rfl (by decide +kernel) ⟨Nat.le_of_ble_eq_true rfl, Nat.le_of_ble_eq_true rfl⟩) rfl rfl [0, 1] rfl (by decide) hl.1 rfl rfl (Nat.le_of_ble_eq_true rfl) dX8_scan_84 ⟨Nat.le_of_ble_eq_true rfl, Nat.le_of_ble_eq_true rfl⟩ (fun v w1 H locs hq hw => ?_)
          obtain ⟨z3, q84_0, rfl, rfl⟩ := hq
          change (z3 = 1 ∧ x < (M 9) ∧ 97 ≤ T x.toNat ∧ T x.toNat ≤ 122) ∨ (z3 = 0 ∧ ¬ (x < (M 9) ∧ 97 ≤ T x.toNat ∧ T x.toNat ≤ 122)) at q84_0
          have hw : lo_Wd X ([oX8 (d 0) (M 0) (d 1) (d 2) (M 3) (d 3) (M 5) (d 4) (d 5) (d 6) (M 9) (d 7) (M 11) (M 12) (M 13) (M 14) (M 15) (M 16) (M 17) (M 18) (M 19) x x (M 22) (M 23) (M 24) (M 25) (M 26) (M 27) (M 28), arI X (d 6) 500 T]) A9 s9.heap H locs := hw
          refine W.eq (g2 := F0 m9 87 ls [.int (iI z3)]) rfl ?_
          refine lo_if_eq (tgt := 122) E dX8_scan_87 (by decide) (by omega) (fun c4 => ?_) (fun c4 => ?_)
          · skip
            refine lv_aload_n Ex Eb dX8_scan_122 rfl (lv_at hl 0 rfl) ?_
            refine lv_aload_n Ex Eb dX8_scan_123 rfl (lv_at hl 0 rfl) ?_
            refine lo_get E hK hw huRX8 20 hf199 rfl 0 rfl rfl (by decide) (v := .int (iI x)) rfl dX8_scan_124 ?_
            refine lo_callV (q0 := 0) (rest := []) E hK hw (kX8_digitAt l X d (uI (uI M 20 x) 21 x) T x (ht) (hT) (by omega)) (cwV 1 E.2.2.2.2 gX8_scan_X8_digitAt rfl rfl rfl (by decide +kernel) ⟨Nat.le_of_ble_eq_true rfl, Nat.le_of_ble_eq_true rfl⟩) rfl rfl [0, 1] rfl (by decide) hl.1 rfl rfl (Nat.le_of_ble_eq_true rfl) dX8_scan_127 ⟨Nat.le_of_ble_eq_true rfl, Nat.le_of_ble_eq_true rfl⟩ (fun v w1 H locs hq hw => ?_)
            obtain ⟨z5, q127_0, rfl, rfl⟩ := hq
            change (z5 = 1 ∧ x < (M 9) ∧ 48 ≤ T x.toNat ∧ T x.toNat ≤ 57) ∨ (z5 = 0 ∧ ¬ (x < (M 9) ∧ 48 ≤ T x.toNat ∧ T x.toNat ≤ 57)) at q127_0
            have hw : lo_Wd X ([oX8 (d 0) (M 0) (d 1) (d 2) (M 3) (d 3) (M 5) (d 4) (d 5) (d 6) (M 9) (d 7) (M 11) (M 12) (M 13) (M 14) (M 15) (M 16) (M 17) (M 18) (M 19) x x (M 22) (M 23) (M 24) (M 25) (M 26) (M 27) (M 28), arI X (d 6) 500 T]) A9 s9.heap H locs := hw
            refine W.eq (g2 := F0 m9 130 ls [.int (iI z5)]) rfl ?_
            refine lo_if_eq (tgt := 233) E dX8_scan_130 (by decide) (by omega) (fun c6 => ?_) (fun c6 => ?_)
            · skip
              refine lv_aload_n Ex Eb dX8_scan_233 rfl (lv_at hl 0 rfl) ?_
              refine lv_aload_n Ex Eb dX8_scan_234 rfl (lv_at hl 0 rfl) ?_
              refine lo_get E hK hw huRX8 8 hf27 rfl 0 rfl rfl (by decide) (v := .ref (d 6)) rfl dX8_scan_235 ?_
              refine lv_aload_n Ex Eb dX8_scan_238 rfl (lv_at hl 0 rfl) ?_
              refine lo_get E hK hw huRX8 20 hf199 rfl 0 rfl rfl (by decide) (v := .int (iI x)) rfl dX8_scan_239 ?_
              refine lo_iald E hK hw 1 rfl (by omega) dX8_scan_242 ?_
              refine lv_bipush (v := iI 59) Ex Eb dX8_scan_243 rfl ?_
              refine lo_icmp_ne (tgt := 252) E dX8_scan_245 (by decide) (by omega) (by omega) (fun c7 => ?_) (fun c7 => ?_)
              · skip
                refine lv_aload_n Ex Eb dX8_scan_252 rfl (lv_at hl 0 rfl) ?_
                refine lo_get E hK hw huRX8 8 hf27 rfl 0 rfl rfl (by decide) (v := .ref (d 6)) rfl dX8_scan_253 ?_
                refine lv_aload_n Ex Eb dX8_scan_256 rfl (lv_at hl 0 rfl) ?_
                refine lo_get E hK hw huRX8 20 hf199 rfl 0 rfl rfl (by decide) (v := .int (iI x)) rfl dX8_scan_257 ?_
                refine lo_iald E hK hw 1 rfl (by omega) dX8_scan_260 ?_
                refine lv_bipush (v := iI 40) Ex Eb dX8_scan_261 rfl ?_
                refine lo_icmp_ne (tgt := 270) E dX8_scan_263 (by decide) (by omega) (by omega) (fun c8 => ?_) (fun c8 => ?_)
                · skip
                  refine lv_aload_n Ex Eb dX8_scan_270 rfl (lv_at hl 0 rfl) ?_
                  refine lo_get E hK hw huRX8 8 hf27 rfl 0 rfl rfl (by decide) (v := .ref (d 6)) rfl dX8_scan_271 ?_
                  refine lv_aload_n Ex Eb dX8_scan_274 rfl (lv_at hl 0 rfl) ?_
                  refine lo_get E hK hw huRX8 20 hf199 rfl 0 rfl rfl (by decide) (v := .int (iI x)) rfl dX8_scan_275 ?_
                  refine lo_iald E hK hw 1 rfl (by omega) dX8_scan_278 ?_
                  refine lv_bipush (v := iI 41) Ex Eb dX8_scan_279 rfl ?_
                  refine lo_icmp_ne (tgt := 289) E dX8_scan_281 (by decide) (by omega) (by omega) (fun c9 => ?_) (fun c9 => ?_)
                  · skip
                    refine lv_iconst (v := iI 4) Ex Eb dX8_scan_289 rfl ?_
                    refine lo_put E hK hw huRX8 tyX8 tyX8_ok nmX8 22 hf205 rfl 0 rfl rfl (by decide) rfl rfl rfl rfl (Nat.le_of_ble_eq_true rfl) (ws' := [oX8 (d 0) (M 0) (d 1) (d 2) (M 3) (d 3) (M 5) (d 4) (d 5) (d 6) (M 9) (d 7) (M 11) (M 12) (M 13) (M 14) (M 15) (M 16) (M 17) (M 18) (M 19) x x 4 (M 23) (M 24) (M 25) (M 26) (M 27) (M 28), arI X (d 6) 500 T]) rfl dX8_scan_290 (fun H locs hw => ?_)
                    refine lv_aload_n Ex Eb dX8_scan_293 rfl (lv_at hl 0 rfl) ?_
                    refine lv_dup Ex Eb dX8_scan_294 rfl ?_
                    refine lo_get E hK hw huRX8 20 hf199 rfl 0 rfl rfl (by decide) (v := .int (iI x)) rfl dX8_scan_295 ?_
                    refine lv_iconst (v := iI 1) Ex Eb dX8_scan_298 rfl ?_
                    refine lo_iadd E dX8_scan_299 ?_
                    refine lo_put E hK hw huRX8 tyX8 tyX8_ok nmX8 20 hf199 rfl 0 rfl rfl (by decide) rfl rfl rfl rfl (Nat.le_of_ble_eq_true rfl) (ws' := [oX8 (d 0) (M 0) (d 1) (d 2) (M 3) (d 3) (M 5) (d 4) (d 5) (d 6) (M 9) (d 7) (M 11) (M 12) (M 13) (M 14) (M 15) (M 16) (M 17) (M 18) (M 19) (x + 1) x 4 (M 23) (M 24) (M 25) (M 26) (M 27) (M 28), arI X (d 6) 500 T]) rfl dX8_scan_300 (fun H locs hw => ?_)
                    exact lo_vret E hRt hLk hK hAe hw dX8_scan_303 rfl ⟨x + 1, 4, M 23, (by rw [hbe]; first | (exfalso; omega) | exact Or.inl ⟨by omega, by omega, by omega, by omega⟩ | (have he : spE pLe T (M 9) y = y := spE_e (fun h => by have h2 := h.2; change 97 ≤ T y.toNat ∧ T y.toNat ≤ 122 at h2; omega); exact Or.inr (Or.inl ⟨by omega, (by show 97 ≤ T x.toNat ∧ T x.toNat ≤ 122; omega), by omega, by omega, by omega⟩)) | (have he : spE pDi T (M 9) y = y := spE_e (fun h => by have h2 := h.2; change 48 ≤ T y.toNat ∧ T y.toNat ≤ 57 at h2; omega); have hf : fgE T (M 9) x y f = f := fgE_e (fun h => by have h2 := h.2; change 48 ≤ T y.toNat ∧ T y.toNat ≤ 57 at h2; omega); exact Or.inr (Or.inr (Or.inl ⟨by omega, (by show 48 ≤ T x.toNat ∧ T x.toNat ≤ 57; omega), by omega, by omega, by omega⟩))) | exact Or.inr (Or.inr (Or.inr ⟨by omega, (by show ¬ (97 ≤ T x.toNat ∧ T x.toNat ≤ 122); omega), (by show ¬ (48 ≤ T x.toNat ∧ T x.toNat ≤ 57); omega), by omega, by omega, by omega⟩))), (by omega), rfl, by rw [hbe]⟩
                  · skip
                    refine lv_bipush (v := iI 6) Ex Eb dX8_scan_284 rfl ?_
                    refine lv_goto (tgt := 290) Ex Eb dX8_scan_286 (by decide) ?_
                    refine lo_put E hK hw huRX8 tyX8 tyX8_ok nmX8 22 hf205 rfl 0 rfl rfl (by decide) rfl rfl rfl rfl (Nat.le_of_ble_eq_true rfl) (ws' := [oX8 (d 0) (M 0) (d 1) (d 2) (M 3) (d 3) (M 5) (d 4) (d 5) (d 6) (M 9) (d 7) (M 11) (M 12) (M 13) (M 14) (M 15) (M 16) (M 17) (M 18) (M 19) x x 6 (M 23) (M 24) (M 25) (M 26) (M 27) (M 28), arI X (d 6) 500 T]) rfl dX8_scan_290 (fun H locs hw => ?_)
                    refine lv_aload_n Ex Eb dX8_scan_293 rfl (lv_at hl 0 rfl) ?_
                    refine lv_dup Ex Eb dX8_scan_294 rfl ?_
                    refine lo_get E hK hw huRX8 20 hf199 rfl 0 rfl rfl (by decide) (v := .int (iI x)) rfl dX8_scan_295 ?_
                    refine lv_iconst (v := iI 1) Ex Eb dX8_scan_298 rfl ?_
                    refine lo_iadd E dX8_scan_299 ?_
                    refine lo_put E hK hw huRX8 tyX8 tyX8_ok nmX8 20 hf199 rfl 0 rfl rfl (by decide) rfl rfl rfl rfl (Nat.le_of_ble_eq_true rfl) (ws' := [oX8 (d 0) (M 0) (d 1) (d 2) (M 3) (d 3) (M 5) (d 4) (d 5) (d 6) (M 9) (d 7) (M 11) (M 12) (M 13) (M 14) (M 15) (M 16) (M 17) (M 18) (M 19) (x + 1) x 6 (M 23) (M 24) (M 25) (M 26) (M 27) (M 28), arI X (d 6) 500 T]) rfl dX8_scan_300 (fun H locs hw => ?_)
                    exact lo_vret E hRt hLk hK hAe hw dX8_scan_303 rfl ⟨x + 1, 6, M 23, (by rw [hbe]; first | (exfalso; omega) | exact Or.inl ⟨by omega, by omega, by omega, by omega⟩ | (have he : spE pLe T (M 9) y = y := spE_e (fun h => by have h2 := h.2; change 97 ≤ T y.toNat ∧ T y.toNat ≤ 122 at h2; omega); exact Or.inr (Or.inl ⟨by omega, (by show 97 ≤ T x.toNat ∧ T x.toNat ≤ 122; omega), by omega, by omega, by omega⟩)) | (have he : spE pDi T (M 9) y = y := spE_e (fun h => by have h2 := h.2; change 48 ≤ T y.toNat ∧ T y.toNat ≤ 57 at h2; omega); have hf : fgE T (M 9) x y f = f := fgE_e (fun h => by have h2 := h.2; change 48 ≤ T y.toNat ∧ T y.toNat ≤ 57 at h2; omega); exact Or.inr (Or.inr (Or.inl ⟨by omega, (by show 48 ≤ T x.toNat ∧ T x.toNat ≤ 57; omega), by omega, by omega, by omega⟩))) | exact Or.inr (Or.inr (Or.inr ⟨by omega, (by show ¬ (97 ≤ T x.toNat ∧ T x.toNat ≤ 122); omega), (by show ¬ (48 ≤ T x.toNat ∧ T x.toNat ≤ 57); omega), by omega, by omega, by omega⟩))), (by omega), rfl, by rw [hbe]⟩
                · skip
                  refine lv_iconst (v := iI 5) Ex Eb dX8_scan_266 rfl ?_
                  refine lv_goto (tgt := 290) Ex Eb dX8_scan_267 (by decide) ?_
                  refine lo_put E hK hw huRX8 tyX8 tyX8_ok nmX8 22 hf205 rfl 0 rfl rfl (by decide) rfl rfl rfl rfl (Nat.le_of_ble_eq_true rfl) (ws' := [oX8 (d 0) (M 0) (d 1) (d 2) (M 3) (d 3) (M 5) (d 4) (d 5) (d 6) (M 9) (d 7) (M 11) (M 12) (M 13) (M 14) (M 15) (M 16) (M 17) (M 18) (M 19) x x 5 (M 23) (M 24) (M 25) (M 26) (M 27) (M 28), arI X (d 6) 500 T]) rfl dX8_scan_290 (fun H locs hw => ?_)
                  refine lv_aload_n Ex Eb dX8_scan_293 rfl (lv_at hl 0 rfl) ?_
                  refine lv_dup Ex Eb dX8_scan_294 rfl ?_
                  refine lo_get E hK hw huRX8 20 hf199 rfl 0 rfl rfl (by decide) (v := .int (iI x)) rfl dX8_scan_295 ?_
                  refine lv_iconst (v := iI 1) Ex Eb dX8_scan_298 rfl ?_
                  refine lo_iadd E dX8_scan_299 ?_
                  refine lo_put E hK hw huRX8 tyX8 tyX8_ok nmX8 20 hf199 rfl 0 rfl rfl (by decide) rfl rfl rfl rfl (Nat.le_of_ble_eq_true rfl) (ws' := [oX8 (d 0) (M 0) (d 1) (d 2) (M 3) (d 3) (M 5) (d 4) (d 5) (d 6) (M 9) (d 7) (M 11) (M 12) (M 13) (M 14) (M 15) (M 16) (M 17) (M 18) (M 19) (x + 1) x 5 (M 23) (M 24) (M 25) (M 26) (M 27) (M 28), arI X (d 6) 500 T]) rfl dX8_scan_300 (fun H locs hw => ?_)
                  exact lo_vret E hRt hLk hK hAe hw dX8_scan_303 rfl ⟨x + 1, 5, M 23, (by rw [hbe]; first | (exfalso; omega) | exact Or.inl ⟨by omega, by omega, by omega, by omega⟩ | (have he : spE pLe T (M 9) y = y := spE_e (fun h => by have h2 := h.2; change 97 ≤ T y.toNat ∧ T y.toNat ≤ 122 at h2; omega); exact Or.inr (Or.inl ⟨by omega, (by show 97 ≤ T x.toNat ∧ T x.toNat ≤ 122; omega), by omega, by omega, by omega⟩)) | (have he : spE pDi T (M 9) y = y := spE_e (fun h => by have h2 := h.2; change 48 ≤ T y.toNat ∧ T y.toNat ≤ 57 at h2; omega); have hf : fgE T (M 9) x y f = f := fgE_e (fun h => by have h2 := h.2; change 48 ≤ T y.toNat ∧ T y.toNat ≤ 57 at h2; omega); exact Or.inr (Or.inr (Or.inl ⟨by omega, (by show 48 ≤ T x.toNat ∧ T x.toNat ≤ 57; omega), by omega, by omega, by omega⟩))) | exact Or.inr (Or.inr (Or.inr ⟨by omega, (by show ¬ (97 ≤ T x.toNat ∧ T x.toNat ≤ 122); omega), (by show ¬ (48 ≤ T x.toNat ∧ T x.toNat ≤ 57); omega), by omega, by omega, by omega⟩))), (by omega), rfl, by rw [hbe]⟩
              · skip
                refine lv_iconst (v := iI 1) Ex Eb dX8_scan_248 rfl ?_
                refine lv_goto (tgt := 290) Ex Eb dX8_scan_249 (by decide) ?_
                refine lo_put E hK hw huRX8 tyX8 tyX8_ok nmX8 22 hf205 rfl 0 rfl rfl (by decide) rfl rfl rfl rfl (Nat.le_of_ble_eq_true rfl) (ws' := [oX8 (d 0) (M 0) (d 1) (d 2) (M 3) (d 3) (M 5) (d 4) (d 5) (d 6) (M 9) (d 7) (M 11) (M 12) (M 13) (M 14) (M 15) (M 16) (M 17) (M 18) (M 19) x x 1 (M 23) (M 24) (M 25) (M 26) (M 27) (M 28), arI X (d 6) 500 T]) rfl dX8_scan_290 (fun H locs hw => ?_)
                refine lv_aload_n Ex Eb dX8_scan_293 rfl (lv_at hl 0 rfl) ?_
                refine lv_dup Ex Eb dX8_scan_294 rfl ?_
                refine lo_get E hK hw huRX8 20 hf199 rfl 0 rfl rfl (by decide) (v := .int (iI x)) rfl dX8_scan_295 ?_
                refine lv_iconst (v := iI 1) Ex Eb dX8_scan_298 rfl ?_
                refine lo_iadd E dX8_scan_299 ?_
                refine lo_put E hK hw huRX8 tyX8 tyX8_ok nmX8 20 hf199 rfl 0 rfl rfl (by decide) rfl rfl rfl rfl (Nat.le_of_ble_eq_true rfl) (ws' := [oX8 (d 0) (M 0) (d 1) (d 2) (M 3) (d 3) (M 5) (d 4) (d 5) (d 6) (M 9) (d 7) (M 11) (M 12) (M 13) (M 14) (M 15) (M 16) (M 17) (M 18) (M 19) (x + 1) x 1 (M 23) (M 24) (M 25) (M 26) (M 27) (M 28), arI X (d 6) 500 T]) rfl dX8_scan_300 (fun H locs hw => ?_)
                exact lo_vret E hRt hLk hK hAe hw dX8_scan_303 rfl ⟨x + 1, 1, M 23, (by rw [hbe]; first | (exfalso; omega) | exact Or.inl ⟨by omega, by omega, by omega, by omega⟩ | (have he : spE pLe T (M 9) y = y := spE_e (fun h => by have h2 := h.2; change 97 ≤ T y.toNat ∧ T y.toNat ≤ 122 at h2; omega); exact Or.inr (Or.inl ⟨by omega, (by show 97 ≤ T x.toNat ∧ T x.toNat ≤ 122; omega), by omega, by omega, by omega⟩)) | (have he : spE pDi T (M 9) y = y := spE_e (fun h => by have h2 := h.2; change 48 ≤ T y.toNat ∧ T y.toNat ≤ 57 at h2; omega); have hf : fgE T (M 9) x y f = f := fgE_e (fun h => by have h2 := h.2; change 48 ≤ T y.toNat ∧ T y.toNat ≤ 57 at h2; omega); exact Or.inr (Or.inr (Or.inl ⟨by omega, (by show 48 ≤ T x.toNat ∧ T x.toNat ≤ 57; omega), by omega, by omega, by omega⟩))) | exact Or.inr (Or.inr (Or.inr ⟨by omega, (by show ¬ (97 ≤ T x.toNat ∧ T x.toNat ≤ 122); omega), (by show ¬ (48 ≤ T x.toNat ∧ T x.toNat ≤ 57); omega), by omega, by omega, by omega⟩))), (by omega), rfl, by rw [hbe]⟩
            · skip
              refine lv_aload_n Ex Eb dX8_scan_133 rfl (lv_at hl 0 rfl) ?_
              refine lv_iconst (v := iI 0) Ex Eb dX8_scan_134 rfl ?_
              refine lo_put E hK hw huRX8 tyX8 tyX8_ok nmX8 23 hf214 rfl 0 rfl rfl (by decide) rfl rfl rfl rfl (Nat.le_of_ble_eq_true rfl) (ws' := [oX8 (d 0) (M 0) (d 1) (d 2) (M 3) (d 3) (M 5) (d 4) (d 5) (d 6) (M 9) (d 7) (M 11) (M 12) (M 13) (M 14) (M 15) (M 16) (M 17) (M 18) (M 19) x x (M 22) 0 (M 24) (M 25) (M 26) (M 27) (M 28), arI X (d 6) 500 T]) rfl dX8_scan_135 (fun H locs hw => ?_)
              have lp138 : ∀ (n : Nat) (y f : Int), (M 9 - y).toNat < n → (x ≤ y ∧ y ≤ M 9) → (spE pDi T (M 9) y = spE pDi T (M 9) x) → (fgE T (M 9) x y f = fgE T (M 9) x x 0) → ((y - x = 0 ∧ f = 0) ∨ (y - x = 1 ∧ 0 ≤ f ∧ f ≤ 9) ∨ (y - x = 2 ∧ 0 ≤ f ∧ f ≤ 99) ∨ (y - x = 3 ∧ 0 ≤ f ∧ f ≤ 999) ∨ (y - x = 4 ∧ 0 ≤ f ∧ f ≤ 9999) ∨ (y - x = 5 ∧ 0 ≤ f ∧ f ≤ 99999) ∨ (y - x = 6 ∧ 0 ≤ f ∧ f ≤ 999999) ∨ (7 ≤ y - x ∧ 0 ≤ f ∧ f ≤ 9999999)) → ∀ (H : Heap) (locs : List Loc) (ls : Array Slot), lo_Wd X ([oX8 (d 0) (M 0) (d 1) (d 2) (M 3) (d 3) (M 5) (d 4) (d 5) (d 6) (M 9) (d 7) (M 11) (M 12) (M 13) (M 14) (M 15) (M 16) (M 17) (M 18) (M 19) y x (M 22) f (M 24) (M 25) (M 26) (M 27) (M 28), arI X (d 6) 500 T]) A9 s9.heap H locs → lv_has ls 1 [(0, .ref (d 0))] → W p9 l e9 ({ frames := 1, cells := 0, slots := 0, locals := 21 } : Room) s9 m9 ([.ref (d 0)] : List Value).toArray bl9 me9 c9 H locs 0 0 (MQ bl9 (lo_Qc X ([oX8 (d 0) (M 0) (d 1) (d 2) (M 3) (d 3) (M 5) (d 4) (d 5) (d 6) (M 9) (d 7) (M 11) (M 12) (M 13) (M 14) (M 15) (M 16) (M 17) (M 18) (M 19) (M 20) (M 21) (M 22) (M 23) (M 24) (M 25) (M 26) (M 27) (M 28), arI X (d 6) 500 T]) s9.heap.size (fun v9 w9 => ∃ na : Int, ∃ nk : Int, ∃ ng : Int, (SCN T (M 9) (spE pSp T (M 9) (M 20)) (M 23) na nk ng) ∧ ((M 20 ≤ spE pSp T (M 9) (M 20) ∧ spE pSp T (M 9) (M 20) ≤ na ∧ na ≤ M 9) ∧ 0 ≤ ng ∧ ng ≤ 9999999) ∧ v9 = none ∧ w9 = [oX8 (d 0) (M 0) (d 1) (d 2) (M 3) (d 3) (M 5) (d 4) (d 5) (d 6) (M 9) (d 7) (M 11) (M 12) (M 13) (M 14) (M 15) (M 16) (M 17) (M 18) (M 19) na (spE pSp T (M 9) (M 20)) nk ng (M 24) (M 25) (M 26) (M 27) (M 28), arI X (d 6) 500 T])) ([.ref (d 0)] : List Value).toArray s9 0 0 A9) (F0 m9 138 ls []) := by
                intro n
                induction n with
                | zero => intro y f hn; exact absurd hn (Nat.not_lt_zero _)
                | succ n ih138 =>
                  intro y f hn138 iv138_0 iv138_1 iv138_2 iv138_3 H locs ls hw hl
                  have hTy := hT y.toNat
                  refine lv_aload_n Ex Eb dX8_scan_138 rfl (lv_at hl 0 rfl) ?_
                  refine lv_aload_n Ex Eb dX8_scan_139 rfl (lv_at hl 0 rfl) ?_
                  refine lo_get E hK hw huRX8 20 hf199 rfl 0 rfl rfl (by decide) (v := .int (iI y)) rfl dX8_scan_140 ?_
                  refine lo_callV (q0 := 0) (rest := []) E hK hw (kX8_digitAt l X d (uI (uI (uI M 20 y) 21 x) 23 f) T y (ht) (hT) (by omega)) (cwV 1 E.2.2.2.2 gX8_scan_X8_digitAt rfl rfl rfl (by decide +kernel) ⟨Nat.le_of_ble_eq_true rfl, Nat.le_of_ble_eq_true rfl⟩) rfl rfl [0, 1] rfl (by decide) hl.1 rfl rfl (Nat.le_of_ble_eq_true rfl) dX8_scan_143 ⟨Nat.le_of_ble_eq_true rfl, Nat.le_of_ble_eq_true rfl⟩ (fun v w1 H locs hq hw => ?_)
                  obtain ⟨z10, q143_0, rfl, rfl⟩ := hq
                  change (z10 = 1 ∧ y < (M 9) ∧ 48 ≤ T y.toNat ∧ T y.toNat ≤ 57) ∨ (z10 = 0 ∧ ¬ (y < (M 9) ∧ 48 ≤ T y.toNat ∧ T y.toNat ≤ 57)) at q143_0
                  have hw : lo_Wd X ([oX8 (d 0) (M 0) (d 1) (d 2) (M 3) (d 3) (M 5) (d 4) (d 5) (d 6) (M 9) (d 7) (M 11) (M 12) (M 13) (M 14) (M 15) (M 16) (M 17) (M 18) (M 19) y x (M 22) f (M 24) (M 25) (M 26) (M 27) (M 28), arI X (d 6) 500 T]) A9 s9.heap H locs := hw
                  refine W.eq (g2 := F0 m9 146 ls [.int (iI z10)]) rfl ?_
                  refine lo_if_eq (tgt := 207) E dX8_scan_146 (by decide) (by omega) (fun c11 => ?_) (fun c11 => ?_)
                  · skip
                    refine lv_aload_n Ex Eb dX8_scan_207 rfl (lv_at hl 0 rfl) ?_
                    refine lv_aload_n Ex Eb dX8_scan_208 rfl (lv_at hl 0 rfl) ?_
                    refine lo_get E hK hw huRX8 20 hf199 rfl 0 rfl rfl (by decide) (v := .int (iI y)) rfl dX8_scan_209 ?_
                    refine lv_aload_n Ex Eb dX8_scan_212 rfl (lv_at hl 0 rfl) ?_
                    refine lo_get E hK hw huRX8 21 hf202 rfl 0 rfl rfl (by decide) (v := .int (iI x)) rfl dX8_scan_213 ?_
                    refine lo_isub E dX8_scan_216 ?_
                    refine lv_bipush (v := iI 7) Ex Eb dX8_scan_217 rfl ?_
                    refine lo_icmp_le (tgt := 226) E dX8_scan_219 (by decide) (by omega) (by omega) (fun c12 => ?_) (fun c12 => ?_)
                    · skip
                      refine lv_iconst (v := iI 2) Ex Eb dX8_scan_226 rfl ?_
                      refine lo_put E hK hw huRX8 tyX8 tyX8_ok nmX8 22 hf205 rfl 0 rfl rfl (by decide) rfl rfl rfl rfl (Nat.le_of_ble_eq_true rfl) (ws' := [oX8 (d 0) (M 0) (d 1) (d 2) (M 3) (d 3) (M 5) (d 4) (d 5) (d 6) (M 9) (d 7) (M 11) (M 12) (M 13) (M 14) (M 15) (M 16) (M 17) (M 18) (M 19) y x 2 f (M 24) (M 25) (M 26) (M 27) (M 28), arI X (d 6) 500 T]) rfl dX8_scan_227 (fun H locs hw => ?_)
                      refine lv_goto (tgt := 303) Ex Eb dX8_scan_230 (by decide) ?_
                      exact lo_vret E hRt hLk hK hAe hw dX8_scan_303 rfl ⟨y, 2, f, (by rw [hbe]; first | (exfalso; omega) | exact Or.inl ⟨by omega, by omega, by omega, by omega⟩ | (have he : spE pLe T (M 9) y = y := spE_e (fun h => by have h2 := h.2; change 97 ≤ T y.toNat ∧ T y.toNat ≤ 122 at h2; omega); exact Or.inr (Or.inl ⟨by omega, (by show 97 ≤ T x.toNat ∧ T x.toNat ≤ 122; omega), by omega, by omega, by omega⟩)) | (have he : spE pDi T (M 9) y = y := spE_e (fun h => by have h2 := h.2; change 48 ≤ T y.toNat ∧ T y.toNat ≤ 57 at h2; omega); have hf : fgE T (M 9) x y f = f := fgE_e (fun h => by have h2 := h.2; change 48 ≤ T y.toNat ∧ T y.toNat ≤ 57 at h2; omega); exact Or.inr (Or.inr (Or.inl ⟨by omega, (by show 48 ≤ T x.toNat ∧ T x.toNat ≤ 57; omega), by omega, by omega, by omega⟩))) | exact Or.inr (Or.inr (Or.inr ⟨by omega, (by show ¬ (97 ≤ T x.toNat ∧ T x.toNat ≤ 122); omega), (by show ¬ (48 ≤ T x.toNat ∧ T x.toNat ≤ 57); omega), by omega, by omega, by omega⟩))), (by omega), rfl, by rw [hbe]⟩
                    · skip
                      refine lv_iconst (v := iI 4) Ex Eb dX8_scan_222 rfl ?_
                      refine lv_goto (tgt := 227) Ex Eb dX8_scan_223 (by decide) ?_
                      refine lo_put E hK hw huRX8 tyX8 tyX8_ok nmX8 22 hf205 rfl 0 rfl rfl (by decide) rfl rfl rfl rfl (Nat.le_of_ble_eq_true rfl) (ws' := [oX8 (d 0) (M 0) (d 1) (d 2) (M 3) (d 3) (M 5) (d 4) (d 5) (d 6) (M 9) (d 7) (M 11) (M 12) (M 13) (M 14) (M 15) (M 16) (M 17) (M 18) (M 19) y x 4 f (M 24) (M 25) (M 26) (M 27) (M 28), arI X (d 6) 500 T]) rfl dX8_scan_227 (fun H locs hw => ?_)
                      refine lv_goto (tgt := 303) Ex Eb dX8_scan_230 (by decide) ?_
                      exact lo_vret E hRt hLk hK hAe hw dX8_scan_303 rfl ⟨y, 4, f, (by rw [hbe]; first | (exfalso; omega) | exact Or.inl ⟨by omega, by omega, by omega, by omega⟩ | (have he : spE pLe T (M 9) y = y := spE_e (fun h => by have h2 := h.2; change 97 ≤ T y.toNat ∧ T y.toNat ≤ 122 at h2; omega); exact Or.inr (Or.inl ⟨by omega, (by show 97 ≤ T x.toNat ∧ T x.toNat ≤ 122; omega), by omega, by omega, by omega⟩)) | (have he : spE pDi T (M 9) y = y := spE_e (fun h => by have h2 := h.2; change 48 ≤ T y.toNat ∧ T y.toNat ≤ 57 at h2; omega); have hf : fgE T (M 9) x y f = f := fgE_e (fun h => by have h2 := h.2; change 48 ≤ T y.toNat ∧ T y.toNat ≤ 57 at h2; omega); exact Or.inr (Or.inr (Or.inl ⟨by omega, (by show 48 ≤ T x.toNat ∧ T x.toNat ≤ 57; omega), by omega, by omega, by omega⟩))) | exact Or.inr (Or.inr (Or.inr ⟨by omega, (by show ¬ (97 ≤ T x.toNat ∧ T x.toNat ≤ 122); omega), (by show ¬ (48 ≤ T x.toNat ∧ T x.toNat ≤ 57); omega), by omega, by omega, by omega⟩))), (by omega), rfl, by rw [hbe]⟩
                  · skip
                    refine lv_aload_n Ex Eb dX8_scan_149 rfl (lv_at hl 0 rfl) ?_
                    refine lv_aload_n Ex Eb dX8_scan_150 rfl (lv_at hl 0 rfl) ?_
                    refine lo_get E hK hw huRX8 20 hf199 rfl 0 rfl rfl (by decide) (v := .int (iI y)) rfl dX8_scan_151 ?_
                    refine lv_aload_n Ex Eb dX8_scan_154 rfl (lv_at hl 0 rfl) ?_
                    refine lo_get E hK hw huRX8 21 hf202 rfl 0 rfl rfl (by decide) (v := .int (iI x)) rfl dX8_scan_155 ?_
                    refine lo_isub E dX8_scan_158 ?_
                    refine lv_bipush (v := iI 7) Ex Eb dX8_scan_159 rfl ?_
                    refine lo_icmp_ge (tgt := 187) E dX8_scan_161 (by decide) (by omega) (by omega) (fun c13 => ?_) (fun c13 => ?_)
                    · skip
                      refine lv_aload_n Ex Eb dX8_scan_187 rfl (lv_at hl 0 rfl) ?_
                      refine lo_get E hK hw huRX8 23 hf214 rfl 0 rfl rfl (by decide) (v := .int (iI f)) rfl dX8_scan_188 ?_
                      refine lo_put E hK hw huRX8 tyX8 tyX8_ok nmX8 23 hf214 rfl 0 rfl rfl (by decide) rfl rfl rfl rfl (Nat.le_of_ble_eq_true rfl) (ws' := [oX8 (d 0) (M 0) (d 1) (d 2) (M 3) (d 3) (M 5) (d 4) (d 5) (d 6) (M 9) (d 7) (M 11) (M 12) (M 13) (M 14) (M 15) (M 16) (M 17) (M 18) (M 19) y x (M 22) f (M 24) (M 25) (M 26) (M 27) (M 28), arI X (d 6) 500 T]) rfl dX8_scan_191 (fun H locs hw => ?_)
                      refine lv_aload_n Ex Eb dX8_scan_194 rfl (lv_at hl 0 rfl) ?_
                      refine lv_dup Ex Eb dX8_scan_195 rfl ?_
                      refine lo_get E hK hw huRX8 20 hf199 rfl 0 rfl rfl (by decide) (v := .int (iI y)) rfl dX8_scan_196 ?_
                      refine lv_iconst (v := iI 1) Ex Eb dX8_scan_199 rfl ?_
                      refine lo_iadd E dX8_scan_200 ?_
                      refine lo_put E hK hw huRX8 tyX8 tyX8_ok nmX8 20 hf199 rfl 0 rfl rfl (by decide) rfl rfl rfl rfl (Nat.le_of_ble_eq_true rfl) (ws' := [oX8 (d 0) (M 0) (d 1) (d 2) (M 3) (d 3) (M 5) (d 4) (d 5) (d 6) (M 9) (d 7) (M 11) (M 12) (M 13) (M 14) (M 15) (M 16) (M 17) (M 18) (M 19) (y + 1) x (M 22) f (M 24) (M 25) (M 26) (M 27) (M 28), arI X (d 6) 500 T]) rfl dX8_scan_201 (fun H locs hw => ?_)
                      refine lv_goto (tgt := 138) Ex Eb dX8_scan_204 (by decide) ?_
                      exact ih138 (y + 1) f (by omega) (by omega) (by rw [← iv138_1]; exact (spE_s (by omega) (by show 48 ≤ T y.toNat ∧ T y.toNat ≤ 57; omega)).symm) (by rw [← iv138_2]; exact (fgE_s (by omega) (by show 48 ≤ T y.toNat ∧ T y.toNat ≤ 57; omega) (by omega)).symm) (by omega) _ _ _ hw (lv_sub hl [0] rfl)
                    · skip
                      refine lv_bipush (v := iI 10) Ex Eb dX8_scan_164 rfl ?_
                      refine lv_aload_n Ex Eb dX8_scan_166 rfl (lv_at hl 0 rfl) ?_
                      refine lo_get E hK hw huRX8 23 hf214 rfl 0 rfl rfl (by decide) (v := .int (iI f)) rfl dX8_scan_167 ?_
                      refine lo_imul E dX8_scan_170 ?_
                      refine lv_aload_n Ex Eb dX8_scan_171 rfl (lv_at hl 0 rfl) ?_
                      refine lo_get E hK hw huRX8 8 hf27 rfl 0 rfl rfl (by decide) (v := .ref (d 6)) rfl dX8_scan_172 ?_
                      refine lv_aload_n Ex Eb dX8_scan_175 rfl (lv_at hl 0 rfl) ?_
                      refine lo_get E hK hw huRX8 20 hf199 rfl 0 rfl rfl (by decide) (v := .int (iI y)) rfl dX8_scan_176 ?_
                      refine lo_iald E hK hw 1 rfl (by omega) dX8_scan_179 ?_
                      refine lo_iadd E dX8_scan_180 ?_
                      refine lv_bipush (v := iI 48) Ex Eb dX8_scan_181 rfl ?_
                      refine lo_isub E dX8_scan_183 ?_
                      refine lv_goto (tgt := 191) Ex Eb dX8_scan_184 (by decide) ?_
                      refine lo_put E hK hw huRX8 tyX8 tyX8_ok nmX8 23 hf214 rfl 0 rfl rfl (by decide) rfl rfl rfl rfl (Nat.le_of_ble_eq_true rfl) (ws' := [oX8 (d 0) (M 0) (d 1) (d 2) (M 3) (d 3) (M 5) (d 4) (d 5) (d 6) (M 9) (d 7) (M 11) (M 12) (M 13) (M 14) (M 15) (M 16) (M 17) (M 18) (M 19) y x (M 22) (((10 * f) + (T y.toNat)) - 48) (M 24) (M 25) (M 26) (M 27) (M 28), arI X (d 6) 500 T]) rfl dX8_scan_191 (fun H locs hw => ?_)
                      refine lv_aload_n Ex Eb dX8_scan_194 rfl (lv_at hl 0 rfl) ?_
                      refine lv_dup Ex Eb dX8_scan_195 rfl ?_
                      refine lo_get E hK hw huRX8 20 hf199 rfl 0 rfl rfl (by decide) (v := .int (iI y)) rfl dX8_scan_196 ?_
                      refine lv_iconst (v := iI 1) Ex Eb dX8_scan_199 rfl ?_
                      refine lo_iadd E dX8_scan_200 ?_
                      refine lo_put E hK hw huRX8 tyX8 tyX8_ok nmX8 20 hf199 rfl 0 rfl rfl (by decide) rfl rfl rfl rfl (Nat.le_of_ble_eq_true rfl) (ws' := [oX8 (d 0) (M 0) (d 1) (d 2) (M 3) (d 3) (M 5) (d 4) (d 5) (d 6) (M 9) (d 7) (M 11) (M 12) (M 13) (M 14) (M 15) (M 16) (M 17) (M 18) (M 19) (y + 1) x (M 22) (((10 * f) + (T y.toNat)) - 48) (M 24) (M 25) (M 26) (M 27) (M 28), arI X (d 6) 500 T]) rfl dX8_scan_201 (fun H locs hw => ?_)
                      refine lv_goto (tgt := 138) Ex Eb dX8_scan_204 (by decide) ?_
                      exact ih138 (y + 1) (((10 * f) + (T y.toNat)) - 48) (by omega) (by omega) (by rw [← iv138_1]; exact (spE_s (by omega) (by show 48 ≤ T y.toNat ∧ T y.toNat ≤ 57; omega)).symm) (by rw [← iv138_2]; exact (fgE_s (by omega) (by show 48 ≤ T y.toNat ∧ T y.toNat ≤ 57; omega) (by omega)).symm) (by omega) _ _ _ hw (lv_sub hl [0] rfl)
              exact lp138 _ x 0 (Nat.lt_succ_self _) (by omega) (rfl) (rfl) (by omega) _ _ _ hw (lv_sub hl [0] rfl)
          · skip
            have lp90 : ∀ (n : Nat) (y : Int), (M 9 - y).toNat < n → (x ≤ y ∧ y ≤ M 9) → (spE pLe T (M 9) y = spE pLe T (M 9) x) → ∀ (H : Heap) (locs : List Loc) (ls : Array Slot), lo_Wd X ([oX8 (d 0) (M 0) (d 1) (d 2) (M 3) (d 3) (M 5) (d 4) (d 5) (d 6) (M 9) (d 7) (M 11) (M 12) (M 13) (M 14) (M 15) (M 16) (M 17) (M 18) (M 19) y x (M 22) (M 23) (M 24) (M 25) (M 26) (M 27) (M 28), arI X (d 6) 500 T]) A9 s9.heap H locs → lv_has ls 1 [(0, .ref (d 0))] → W p9 l e9 ({ frames := 1, cells := 0, slots := 0, locals := 21 } : Room) s9 m9 ([.ref (d 0)] : List Value).toArray bl9 me9 c9 H locs 0 0 (MQ bl9 (lo_Qc X ([oX8 (d 0) (M 0) (d 1) (d 2) (M 3) (d 3) (M 5) (d 4) (d 5) (d 6) (M 9) (d 7) (M 11) (M 12) (M 13) (M 14) (M 15) (M 16) (M 17) (M 18) (M 19) (M 20) (M 21) (M 22) (M 23) (M 24) (M 25) (M 26) (M 27) (M 28), arI X (d 6) 500 T]) s9.heap.size (fun v9 w9 => ∃ na : Int, ∃ nk : Int, ∃ ng : Int, (SCN T (M 9) (spE pSp T (M 9) (M 20)) (M 23) na nk ng) ∧ ((M 20 ≤ spE pSp T (M 9) (M 20) ∧ spE pSp T (M 9) (M 20) ≤ na ∧ na ≤ M 9) ∧ 0 ≤ ng ∧ ng ≤ 9999999) ∧ v9 = none ∧ w9 = [oX8 (d 0) (M 0) (d 1) (d 2) (M 3) (d 3) (M 5) (d 4) (d 5) (d 6) (M 9) (d 7) (M 11) (M 12) (M 13) (M 14) (M 15) (M 16) (M 17) (M 18) (M 19) na (spE pSp T (M 9) (M 20)) nk ng (M 24) (M 25) (M 26) (M 27) (M 28), arI X (d 6) 500 T])) ([.ref (d 0)] : List Value).toArray s9 0 0 A9) (F0 m9 90 ls []) := by
              intro n
              induction n with
              | zero => intro y hn; exact absurd hn (Nat.not_lt_zero _)
              | succ n ih90 =>
                intro y hn90 iv90_0 iv90_1 H locs ls hw hl
                have hTy := hT y.toNat
                refine lv_aload_n Ex Eb dX8_scan_90 rfl (lv_at hl 0 rfl) ?_
                refine lv_aload_n Ex Eb dX8_scan_91 rfl (lv_at hl 0 rfl) ?_
                refine lo_get E hK hw huRX8 20 hf199 rfl 0 rfl rfl (by decide) (v := .int (iI y)) rfl dX8_scan_92 ?_
                refine lo_callV (q0 := 0) (rest := []) E hK hw (kX8_letterAt l X d (uI (uI M 20 y) 21 x) T y (ht) (hT) (by omega)) (cwV 1 E.2.2.2.2 gX8_scan_X8_letterAt rfl rfl rfl (by decide +kernel) ⟨Nat.le_of_ble_eq_true rfl, Nat.le_of_ble_eq_true rfl⟩) rfl rfl [0, 1] rfl (by decide) hl.1 rfl rfl (Nat.le_of_ble_eq_true rfl) dX8_scan_95 ⟨Nat.le_of_ble_eq_true rfl, Nat.le_of_ble_eq_true rfl⟩ (fun v w1 H locs hq hw => ?_)
                obtain ⟨z14, q95_0, rfl, rfl⟩ := hq
                change (z14 = 1 ∧ y < (M 9) ∧ 97 ≤ T y.toNat ∧ T y.toNat ≤ 122) ∨ (z14 = 0 ∧ ¬ (y < (M 9) ∧ 97 ≤ T y.toNat ∧ T y.toNat ≤ 122)) at q95_0
                have hw : lo_Wd X ([oX8 (d 0) (M 0) (d 1) (d 2) (M 3) (d 3) (M 5) (d 4) (d 5) (d 6) (M 9) (d 7) (M 11) (M 12) (M 13) (M 14) (M 15) (M 16) (M 17) (M 18) (M 19) y x (M 22) (M 23) (M 24) (M 25) (M 26) (M 27) (M 28), arI X (d 6) 500 T]) A9 s9.heap H locs := hw
                refine W.eq (g2 := F0 m9 98 ls [.int (iI z14)]) rfl ?_
                refine lo_if_eq (tgt := 114) E dX8_scan_98 (by decide) (by omega) (fun c15 => ?_) (fun c15 => ?_)
                · skip
                  refine lv_aload_n Ex Eb dX8_scan_114 rfl (lv_at hl 0 rfl) ?_
                  refine lv_iconst (v := iI 3) Ex Eb dX8_scan_115 rfl ?_
                  refine lo_put E hK hw huRX8 tyX8 tyX8_ok nmX8 22 hf205 rfl 0 rfl rfl (by decide) rfl rfl rfl rfl (Nat.le_of_ble_eq_true rfl) (ws' := [oX8 (d 0) (M 0) (d 1) (d 2) (M 3) (d 3) (M 5) (d 4) (d 5) (d 6) (M 9) (d 7) (M 11) (M 12) (M 13) (M 14) (M 15) (M 16) (M 17) (M 18) (M 19) y x 3 (M 23) (M 24) (M 25) (M 26) (M 27) (M 28), arI X (d 6) 500 T]) rfl dX8_scan_116 (fun H locs hw => ?_)
                  refine lv_goto (tgt := 303) Ex Eb dX8_scan_119 (by decide) ?_
                  exact lo_vret E hRt hLk hK hAe hw dX8_scan_303 rfl ⟨y, 3, M 23, (by rw [hbe]; first | (exfalso; omega) | exact Or.inl ⟨by omega, by omega, by omega, by omega⟩ | (have he : spE pLe T (M 9) y = y := spE_e (fun h => by have h2 := h.2; change 97 ≤ T y.toNat ∧ T y.toNat ≤ 122 at h2; omega); exact Or.inr (Or.inl ⟨by omega, (by show 97 ≤ T x.toNat ∧ T x.toNat ≤ 122; omega), by omega, by omega, by omega⟩)) | (have he : spE pDi T (M 9) y = y := spE_e (fun h => by have h2 := h.2; change 48 ≤ T y.toNat ∧ T y.toNat ≤ 57 at h2; omega); have hf : fgE T (M 9) x y f = f := fgE_e (fun h => by have h2 := h.2; change 48 ≤ T y.toNat ∧ T y.toNat ≤ 57 at h2; omega); exact Or.inr (Or.inr (Or.inl ⟨by omega, (by show 48 ≤ T x.toNat ∧ T x.toNat ≤ 57; omega), by omega, by omega, by omega⟩))) | exact Or.inr (Or.inr (Or.inr ⟨by omega, (by show ¬ (97 ≤ T x.toNat ∧ T x.toNat ≤ 122); omega), (by show ¬ (48 ≤ T x.toNat ∧ T x.toNat ≤ 57); omega), by omega, by omega, by omega⟩))), (by omega), rfl, by rw [hbe]⟩
                · skip
                  refine lv_aload_n Ex Eb dX8_scan_101 rfl (lv_at hl 0 rfl) ?_
                  refine lv_dup Ex Eb dX8_scan_102 rfl ?_
                  refine lo_get E hK hw huRX8 20 hf199 rfl 0 rfl rfl (by decide) (v := .int (iI y)) rfl dX8_scan_103 ?_
                  refine lv_iconst (v := iI 1) Ex Eb dX8_scan_106 rfl ?_
                  refine lo_iadd E dX8_scan_107 ?_
                  refine lo_put E hK hw huRX8 tyX8 tyX8_ok nmX8 20 hf199 rfl 0 rfl rfl (by decide) rfl rfl rfl rfl (Nat.le_of_ble_eq_true rfl) (ws' := [oX8 (d 0) (M 0) (d 1) (d 2) (M 3) (d 3) (M 5) (d 4) (d 5) (d 6) (M 9) (d 7) (M 11) (M 12) (M 13) (M 14) (M 15) (M 16) (M 17) (M 18) (M 19) (y + 1) x (M 22) (M 23) (M 24) (M 25) (M 26) (M 27) (M 28), arI X (d 6) 500 T]) rfl dX8_scan_108 (fun H locs hw => ?_)
                  refine lv_goto (tgt := 90) Ex Eb dX8_scan_111 (by decide) ?_
                  exact ih90 (y + 1) (by omega) (by omega) (by rw [← iv90_1]; exact (spE_s (by omega) (by show 97 ≤ T y.toNat ∧ T y.toNat ≤ 122; omega)).symm) _ _ _ hw (lv_sub hl [0] rfl)
            exact lp90 _ x (Nat.lt_succ_self _) (by omega) (rfl) _ _ _ hw (lv_sub hl [0] rfl)
        · skip
          refine lv_aload_n Ex Eb dX8_scan_71 rfl (lv_at hl 0 rfl) ?_
          refine lv_iconst (v := iI 0) Ex Eb dX8_scan_72 rfl ?_
          refine lo_put E hK hw huRX8 tyX8 tyX8_ok nmX8 22 hf205 rfl 0 rfl rfl (by decide) rfl rfl rfl rfl (Nat.le_of_ble_eq_true rfl) (ws' := [oX8 (d 0) (M 0) (d 1) (d 2) (M 3) (d 3) (M 5) (d 4) (d 5) (d 6) (M 9) (d 7) (M 11) (M 12) (M 13) (M 14) (M 15) (M 16) (M 17) (M 18) (M 19) x x 0 (M 23) (M 24) (M 25) (M 26) (M 27) (M 28), arI X (d 6) 500 T]) rfl dX8_scan_73 (fun H locs hw => ?_)
          refine lv_goto (tgt := 303) Ex Eb dX8_scan_76 (by decide) ?_
          exact lo_vret E hRt hLk hK hAe hw dX8_scan_303 rfl ⟨x, 0, M 23, (by rw [hbe]; first | (exfalso; omega) | exact Or.inl ⟨by omega, by omega, by omega, by omega⟩ | (have he : spE pLe T (M 9) y = y := spE_e (fun h => by have h2 := h.2; change 97 ≤ T y.toNat ∧ T y.toNat ≤ 122 at h2; omega); exact Or.inr (Or.inl ⟨by omega, (by show 97 ≤ T x.toNat ∧ T x.toNat ≤ 122; omega), by omega, by omega, by omega⟩)) | (have he : spE pDi T (M 9) y = y := spE_e (fun h => by have h2 := h.2; change 48 ≤ T y.toNat ∧ T y.toNat ≤ 57 at h2; omega); have hf : fgE T (M 9) x y f = f := fgE_e (fun h => by have h2 := h.2; change 48 ≤ T y.toNat ∧ T y.toNat ≤ 57 at h2; omega); exact Or.inr (Or.inr (Or.inl ⟨by omega, (by show 48 ≤ T x.toNat ∧ T x.toNat ≤ 57; omega), by omega, by omega, by omega⟩))) | exact Or.inr (Or.inr (Or.inr ⟨by omega, (by show ¬ (97 ≤ T x.toNat ∧ T x.toNat ≤ 122); omega), (by show ¬ (48 ≤ T x.toNat ∧ T x.toNat ≤ 57); omega), by omega, by omega, by omega⟩))), (by omega), rfl, by rw [hbe]⟩
      · skip
        refine lv_aload_n Ex Eb dX8_scan_11 rfl (lv_at hl 0 rfl) ?_
        refine lo_get E hK hw huRX8 8 hf27 rfl 0 rfl rfl (by decide) (v := .ref (d 6)) rfl dX8_scan_12 ?_
        refine lv_aload_n Ex Eb dX8_scan_15 rfl (lv_at hl 0 rfl) ?_
        refine lo_get E hK hw huRX8 20 hf199 rfl 0 rfl rfl (by decide) (v := .int (iI x)) rfl dX8_scan_16 ?_
        refine lo_iald E hK hw 1 rfl (by omega) dX8_scan_19 ?_
        refine lv_bipush (v := iI 32) Ex Eb dX8_scan_20 rfl ?_
        refine lo_icmp_eq (tgt := 39) E dX8_scan_22 (by decide) (by omega) (by omega) (fun c16 => ?_) (fun c16 => ?_)
        · skip
          refine lv_aload_n Ex Eb dX8_scan_39 rfl (lv_at hl 0 rfl) ?_
          refine lv_dup Ex Eb dX8_scan_40 rfl ?_
          refine lo_get E hK hw huRX8 20 hf199 rfl 0 rfl rfl (by decide) (v := .int (iI x)) rfl dX8_scan_41 ?_
          refine lv_iconst (v := iI 1) Ex Eb dX8_scan_44 rfl ?_
          refine lo_iadd E dX8_scan_45 ?_
          refine lo_put E hK hw huRX8 tyX8 tyX8_ok nmX8 20 hf199 rfl 0 rfl rfl (by decide) rfl rfl rfl rfl (Nat.le_of_ble_eq_true rfl) (ws' := [oX8 (d 0) (M 0) (d 1) (d 2) (M 3) (d 3) (M 5) (d 4) (d 5) (d 6) (M 9) (d 7) (M 11) (M 12) (M 13) (M 14) (M 15) (M 16) (M 17) (M 18) (M 19) (x + 1) (M 21) (M 22) (M 23) (M 24) (M 25) (M 26) (M 27) (M 28), arI X (d 6) 500 T]) rfl dX8_scan_46 (fun H locs hw => ?_)
          refine lv_goto (tgt := 0) Ex Eb dX8_scan_49 (by decide) ?_
          exact ih0 (x + 1) (by omega) (by omega) (by rw [← iv0_1]; exact (spE_s (by omega) (by show T x.toNat = 32 ∨ T x.toNat = 10; omega)).symm) _ _ _ hw (lv_sub hl [0] rfl)
        · skip
          refine lv_aload_n Ex Eb dX8_scan_25 rfl (lv_at hl 0 rfl) ?_
          refine lo_get E hK hw huRX8 8 hf27 rfl 0 rfl rfl (by decide) (v := .ref (d 6)) rfl dX8_scan_26 ?_
          refine lv_aload_n Ex Eb dX8_scan_29 rfl (lv_at hl 0 rfl) ?_
          refine lo_get E hK hw huRX8 20 hf199 rfl 0 rfl rfl (by decide) (v := .int (iI x)) rfl dX8_scan_30 ?_
          refine lo_iald E hK hw 1 rfl (by omega) dX8_scan_33 ?_
          refine lv_bipush (v := iI 10) Ex Eb dX8_scan_34 rfl ?_
          refine lo_icmp_ne (tgt := 52) E dX8_scan_36 (by decide) (by omega) (by omega) (fun c17 => ?_) (fun c17 => ?_)
          · skip
            have hbe : spE pSp T (M 9) (M 20) = x := by first | (rw [← iv0_1, spE_e (fun h => by have h2 := h.2; change T x.toNat = 32 ∨ T x.toNat = 10 at h2; omega)]) | (rw [← iv0_1, spE_e (fun h => by omega)])
            refine lv_aload_n Ex Eb dX8_scan_52 rfl (lv_at hl 0 rfl) ?_
            refine lv_aload_n Ex Eb dX8_scan_53 rfl (lv_at hl 0 rfl) ?_
            refine lo_get E hK hw huRX8 20 hf199 rfl 0 rfl rfl (by decide) (v := .int (iI x)) rfl dX8_scan_54 ?_
            refine lo_put E hK hw huRX8 tyX8 tyX8_ok nmX8 21 hf202 rfl 0 rfl rfl (by decide) rfl rfl rfl rfl (Nat.le_of_ble_eq_true rfl) (ws' := [oX8 (d 0) (M 0) (d 1) (d 2) (M 3) (d 3) (M 5) (d 4) (d 5) (d 6) (M 9) (d 7) (M 11) (M 12) (M 13) (M 14) (M 15) (M 16) (M 17) (M 18) (M 19) x x (M 22) (M 23) (M 24) (M 25) (M 26) (M 27) (M 28), arI X (d 6) 500 T]) rfl dX8_scan_57 (fun H locs hw => ?_)
            refine lv_aload_n Ex Eb dX8_scan_60 rfl (lv_at hl 0 rfl) ?_
            refine lo_get E hK hw huRX8 20 hf199 rfl 0 rfl rfl (by decide) (v := .int (iI x)) rfl dX8_scan_61 ?_
            refine lv_aload_n Ex Eb dX8_scan_64 rfl (lv_at hl 0 rfl) ?_
            refine lo_get E hK hw huRX8 9 hf196 rfl 0 rfl rfl (by decide) (v := .int (iI (M 9))) rfl dX8_scan_65 ?_
            refine lo_icmp_ne (tgt := 79) E dX8_scan_68 (by decide) (by omega) (by omega) (fun c18 => ?_) (fun c18 => ?_)
            · skip
              refine lv_aload_n Ex Eb dX8_scan_79 rfl (lv_at hl 0 rfl) ?_
              refine lv_aload_n Ex Eb dX8_scan_80 rfl (lv_at hl 0 rfl) ?_
              refine lo_get E hK hw huRX8 20 hf199 rfl 0 rfl rfl (by decide) (v := .int (iI x)) rfl dX8_scan_81 ?_
              refine lo_callV (q0 := 0) (rest := []) E hK hw (kX8_letterAt l X d (uI (uI M 20 x) 21 x) T x (ht) (hT) (by omega)) (cwV 1 E.2.2.2.2 gX8_scan_X8_letterAt rfl rfl rfl (by decide +kernel) ⟨Nat.le_of_ble_eq_true rfl, Nat.le_of_ble_eq_true rfl⟩) rfl rfl [0, 1] rfl (by decide) hl.1 rfl rfl (Nat.le_of_ble_eq_true rfl) dX8_scan_84 ⟨Nat.le_of_ble_eq_true rfl, Nat.le_of_ble_eq_true rfl⟩ (fun v w1 H locs hq hw => ?_)
              obtain ⟨z19, q84_0, rfl, rfl⟩ := hq
              change (z19 = 1 ∧ x < (M 9) ∧ 97 ≤ T x.toNat ∧ T x.toNat ≤ 122) ∨ (z19 = 0 ∧ ¬ (x < (M 9) ∧ 97 ≤ T x.toNat ∧ T x.toNat ≤ 122)) at q84_0
              have hw : lo_Wd X ([oX8 (d 0) (M 0) (d 1) (d 2) (M 3) (d 3) (M 5) (d 4) (d 5) (d 6) (M 9) (d 7) (M 11) (M 12) (M 13) (M 14) (M 15) (M 16) (M 17) (M 18) (M 19) x x (M 22) (M 23) (M 24) (M 25) (M 26) (M 27) (M 28), arI X (d 6) 500 T]) A9 s9.heap H locs := hw
              refine W.eq (g2 := F0 m9 87 ls [.int (iI z19)]) rfl ?_
              refine lo_if_eq (tgt := 122) E dX8_scan_87 (by decide) (by omega) (fun c20 => ?_) (fun c20 => ?_)
              · skip
                refine lv_aload_n Ex Eb dX8_scan_122 rfl (lv_at hl 0 rfl) ?_
                refine lv_aload_n Ex Eb dX8_scan_123 rfl (lv_at hl 0 rfl) ?_
                refine lo_get E hK hw huRX8 20 hf199 rfl 0 rfl rfl (by decide) (v := .int (iI x)) rfl dX8_scan_124 ?_
                refine lo_callV (q0 := 0) (rest := []) E hK hw (kX8_digitAt l X d (uI (uI M 20 x) 21 x) T x (ht) (hT) (by omega)) (cwV 1 E.2.2.2.2 gX8_scan_X8_digitAt rfl rfl rfl (by decide +kernel) ⟨Nat.le_of_ble_eq_true rfl, Nat.le_of_ble_eq_true rfl⟩) rfl rfl [0, 1] rfl (by decide) hl.1 rfl rfl (Nat.le_of_ble_eq_true rfl) dX8_scan_127 ⟨Nat.le_of_ble_eq_true rfl, Nat.le_of_ble_eq_true rfl⟩ (fun v w1 H locs hq hw => ?_)
                obtain ⟨z21, q127_0, rfl, rfl⟩ := hq
                change (z21 = 1 ∧ x < (M 9) ∧ 48 ≤ T x.toNat ∧ T x.toNat ≤ 57) ∨ (z21 = 0 ∧ ¬ (x < (M 9) ∧ 48 ≤ T x.toNat ∧ T x.toNat ≤ 57)) at q127_0
                have hw : lo_Wd X ([oX8 (d 0) (M 0) (d 1) (d 2) (M 3) (d 3) (M 5) (d 4) (d 5) (d 6) (M 9) (d 7) (M 11) (M 12) (M 13) (M 14) (M 15) (M 16) (M 17) (M 18) (M 19) x x (M 22) (M 23) (M 24) (M 25) (M 26) (M 27) (M 28), arI X (d 6) 500 T]) A9 s9.heap H locs := hw
                refine W.eq (g2 := F0 m9 130 ls [.int (iI z21)]) rfl ?_
                refine lo_if_eq (tgt := 233) E dX8_scan_130 (by decide) (by omega) (fun c22 => ?_) (fun c22 => ?_)
                · skip
                  refine lv_aload_n Ex Eb dX8_scan_233 rfl (lv_at hl 0 rfl) ?_
                  refine lv_aload_n Ex Eb dX8_scan_234 rfl (lv_at hl 0 rfl) ?_
                  refine lo_get E hK hw huRX8 8 hf27 rfl 0 rfl rfl (by decide) (v := .ref (d 6)) rfl dX8_scan_235 ?_
                  refine lv_aload_n Ex Eb dX8_scan_238 rfl (lv_at hl 0 rfl) ?_
                  refine lo_get E hK hw huRX8 20 hf199 rfl 0 rfl rfl (by decide) (v := .int (iI x)) rfl dX8_scan_239 ?_
                  refine lo_iald E hK hw 1 rfl (by omega) dX8_scan_242 ?_
                  refine lv_bipush (v := iI 59) Ex Eb dX8_scan_243 rfl ?_
                  refine lo_icmp_ne (tgt := 252) E dX8_scan_245 (by decide) (by omega) (by omega) (fun c23 => ?_) (fun c23 => ?_)
                  · skip
                    refine lv_aload_n Ex Eb dX8_scan_252 rfl (lv_at hl 0 rfl) ?_
                    refine lo_get E hK hw huRX8 8 hf27 rfl 0 rfl rfl (by decide) (v := .ref (d 6)) rfl dX8_scan_253 ?_
                    refine lv_aload_n Ex Eb dX8_scan_256 rfl (lv_at hl 0 rfl) ?_
                    refine lo_get E hK hw huRX8 20 hf199 rfl 0 rfl rfl (by decide) (v := .int (iI x)) rfl dX8_scan_257 ?_
                    refine lo_iald E hK hw 1 rfl (by omega) dX8_scan_260 ?_
                    refine lv_bipush (v := iI 40) Ex Eb dX8_scan_261 rfl ?_
                    refine lo_icmp_ne (tgt := 270) E dX8_scan_263 (by decide) (by omega) (by omega) (fun c24 => ?_) (fun c24 => ?_)
                    · skip
                      refine lv_aload_n Ex Eb dX8_scan_270 rfl (lv_at hl 0 rfl) ?_
                      refine lo_get E hK hw huRX8 8 hf27 rfl 0 rfl rfl (by decide) (v := .ref (d 6)) rfl dX8_scan_271 ?_
                      refine lv_aload_n Ex Eb dX8_scan_274 rfl (lv_at hl 0 rfl) ?_
                      refine lo_get E hK hw huRX8 20 hf199 rfl 0 rfl rfl (by decide) (v := .int (iI x)) rfl dX8_scan_275 ?_
                      refine lo_iald E hK hw 1 rfl (by omega) dX8_scan_278 ?_
                      refine lv_bipush (v := iI 41) Ex Eb dX8_scan_279 rfl ?_
                      refine lo_icmp_ne (tgt := 289) E dX8_scan_281 (by decide) (by omega) (by omega) (fun c25 => ?_) (fun c25 => ?_)
                      · skip
                        refine lv_iconst (v := iI 4) Ex Eb dX8_scan_289 rfl ?_
                        refine lo_put E hK hw huRX8 tyX8 tyX8_ok nmX8 22 hf205 rfl 0 rfl rfl (by decide) rfl rfl rfl rfl (Nat.le_of_ble_eq_true rfl) (ws' := [oX8 (d 0) (M 0) (d 1) (d 2) (M 3) (d 3) (M 5) (d 4) (d 5) (d 6) (M 9) (d 7) (M 11) (M 12) (M 13) (M 14) (M 15) (M 16) (M 17) (M 18) (M 19) x x 4 (M 23) (M 24) (M 25) (M 26) (M 27) (M 28), arI X (d 6) 500 T]) rfl dX8_scan_290 (fun H locs hw => ?_)
                        refine lv_aload_n Ex Eb dX8_scan_293 rfl (lv_at hl 0 rfl) ?_
                        refine lv_dup Ex Eb dX8_scan_294 rfl ?_
                        refine lo_get E hK hw huRX8 20 hf199 rfl 0 rfl rfl (by decide) (v := .int (iI x)) rfl dX8_scan_295 ?_
                        refine lv_iconst (v := iI 1) Ex Eb dX8_scan_298 rfl ?_
                        refine lo_iadd E dX8_scan_299 ?_
                        refine lo_put E hK hw huRX8 tyX8 tyX8_ok nmX8 20 hf199 rfl 0 rfl rfl (by decide) rfl rfl rfl rfl (Nat.le_of_ble_eq_true rfl) (ws' := [oX8 (d 0) (M 0) (d 1) (d 2) (M 3) (d 3) (M 5) (d 4) (d 5) (d 6) (M 9) (d 7) (M 11) (M 12) (M 13) (M 14) (M 15) (M 16) (M 17) (M 18) (M 19) (x + 1) x 4 (M 23) (M 24) (M 25) (M 26) (M 27) (M 28), arI X (d 6) 500 T]) rfl dX8_scan_300 (fun H locs hw => ?_)
                        exact lo_vret E hRt hLk hK hAe hw dX8_scan_303 rfl ⟨x + 1, 4, M 23, (by rw [hbe]; first | (exfalso; omega) | exact Or.inl ⟨by omega, by omega, by omega, by omega⟩ | (have he : spE pLe T (M 9) y = y := spE_e (fun h => by have h2 := h.2; change 97 ≤ T y.toNat ∧ T y.toNat ≤ 122 at h2; omega); exact Or.inr (Or.inl ⟨by omega, (by show 97 ≤ T x.toNat ∧ T x.toNat ≤ 122; omega), by omega, by omega, by omega⟩)) | (have he : spE pDi T (M 9) y = y := spE_e (fun h => by have h2 := h.2; change 48 ≤ T y.toNat ∧ T y.toNat ≤ 57 at h2; omega); have hf : fgE T (M 9) x y f = f := fgE_e (fun h => by have h2 := h.2; change 48 ≤ T y.toNat ∧ T y.toNat ≤ 57 at h2; omega); exact Or.inr (Or.inr (Or.inl ⟨by omega, (by show 48 ≤ T x.toNat ∧ T x.toNat ≤ 57; omega), by omega, by omega, by omega⟩))) | exact Or.inr (Or.inr (Or.inr ⟨by omega, (by show ¬ (97 ≤ T x.toNat ∧ T x.toNat ≤ 122); omega), (by show ¬ (48 ≤ T x.toNat ∧ T x.toNat ≤ 57); omega), by omega, by omega, by omega⟩))), (by omega), rfl, by rw [hbe]⟩
                      · skip
                        refine lv_bipush (v := iI 6) Ex Eb dX8_scan_284 rfl ?_
                        refine lv_goto (tgt := 290) Ex Eb dX8_scan_286 (by decide) ?_
                        refine lo_put E hK hw huRX8 tyX8 tyX8_ok nmX8 22 hf205 rfl 0 rfl rfl (by decide) rfl rfl rfl rfl (Nat.le_of_ble_eq_true rfl) (ws' := [oX8 (d 0) (M 0) (d 1) (d 2) (M 3) (d 3) (M 5) (d 4) (d 5) (d 6) (M 9) (d 7) (M 11) (M 12) (M 13) (M 14) (M 15) (M 16) (M 17) (M 18) (M 19) x x 6 (M 23) (M 24) (M 25) (M 26) (M 27) (M 28), arI X (d 6) 500 T]) rfl dX8_scan_290 (fun H locs hw => ?_)
                        refine lv_aload_n Ex Eb dX8_scan_293 rfl (lv_at hl 0 rfl) ?_
                        refine lv_dup Ex Eb dX8_scan_294 rfl ?_
                        refine lo_get E hK hw huRX8 20 hf199 rfl 0 rfl rfl (by decide) (v := .int (iI x)) rfl dX8_scan_295 ?_
                        refine lv_iconst (v := iI 1) Ex Eb dX8_scan_298 rfl ?_
                        refine lo_iadd E dX8_scan_299 ?_
                        refine lo_put E hK hw huRX8 tyX8 tyX8_ok nmX8 20 hf199 rfl 0 rfl rfl (by decide) rfl rfl rfl rfl (Nat.le_of_ble_eq_true rfl) (ws' := [oX8 (d 0) (M 0) (d 1) (d 2) (M 3) (d 3) (M 5) (d 4) (d 5) (d 6) (M 9) (d 7) (M 11) (M 12) (M 13) (M 14) (M 15) (M 16) (M 17) (M 18) (M 19) (x + 1) x 6 (M 23) (M 24) (M 25) (M 26) (M 27) (M 28), arI X (d 6) 500 T]) rfl dX8_scan_300 (fun H locs hw => ?_)
                        exact lo_vret E hRt hLk hK hAe hw dX8_scan_303 rfl ⟨x + 1, 6, M 23, (by rw [hbe]; first | (exfalso; omega) | exact Or.inl ⟨by omega, by omega, by omega, by omega⟩ | (have he : spE pLe T (M 9) y = y := spE_e (fun h => by have h2 := h.2; change 97 ≤ T y.toNat ∧ T y.toNat ≤ 122 at h2; omega); exact Or.inr (Or.inl ⟨by omega, (by show 97 ≤ T x.toNat ∧ T x.toNat ≤ 122; omega), by omega, by omega, by omega⟩)) | (have he : spE pDi T (M 9) y = y := spE_e (fun h => by have h2 := h.2; change 48 ≤ T y.toNat ∧ T y.toNat ≤ 57 at h2; omega); have hf : fgE T (M 9) x y f = f := fgE_e (fun h => by have h2 := h.2; change 48 ≤ T y.toNat ∧ T y.toNat ≤ 57 at h2; omega); exact Or.inr (Or.inr (Or.inl ⟨by omega, (by show 48 ≤ T x.toNat ∧ T x.toNat ≤ 57; omega), by omega, by omega, by omega⟩))) | exact Or.inr (Or.inr (Or.inr ⟨by omega, (by show ¬ (97 ≤ T x.toNat ∧ T x.toNat ≤ 122); omega), (by show ¬ (48 ≤ T x.toNat ∧ T x.toNat ≤ 57); omega), by omega, by omega, by omega⟩))), (by omega), rfl, by rw [hbe]⟩
                    · skip
                      refine lv_iconst (v := iI 5) Ex Eb dX8_scan_266 rfl ?_
                      refine lv_goto (tgt := 290) Ex Eb dX8_scan_267 (by decide) ?_
                      refine lo_put E hK hw huRX8 tyX8 tyX8_ok nmX8 22 hf205 rfl 0 rfl rfl (by decide) rfl rfl rfl rfl (Nat.le_of_ble_eq_true rfl) (ws' := [oX8 (d 0) (M 0) (d 1) (d 2) (M 3) (d 3) (M 5) (d 4) (d 5) (d 6) (M 9) (d 7) (M 11) (M 12) (M 13) (M 14) (M 15) (M 16) (M 17) (M 18) (M 19) x x 5 (M 23) (M 24) (M 25) (M 26) (M 27) (M 28), arI X (d 6) 500 T]) rfl dX8_scan_290 (fun H locs hw => ?_)
                      refine lv_aload_n Ex Eb dX8_scan_293 rfl (lv_at hl 0 rfl) ?_
                      refine lv_dup Ex Eb dX8_scan_294 rfl ?_
                      refine lo_get E hK hw huRX8 20 hf199 rfl 0 rfl rfl (by decide) (v := .int (iI x)) rfl dX8_scan_295 ?_
                      refine lv_iconst (v := iI 1) Ex Eb dX8_scan_298 rfl ?_
                      refine lo_iadd E dX8_scan_299 ?_
                      refine lo_put E hK hw huRX8 tyX8 tyX8_ok nmX8 20 hf199 rfl 0 rfl rfl (by decide) rfl rfl rfl rfl (Nat.le_of_ble_eq_true rfl) (ws' := [oX8 (d 0) (M 0) (d 1) (d 2) (M 3) (d 3) (M 5) (d 4) (d 5) (d 6) (M 9) (d 7) (M 11) (M 12) (M 13) (M 14) (M 15) (M 16) (M 17) (M 18) (M 19) (x + 1) x 5 (M 23) (M 24) (M 25) (M 26) (M 27) (M 28), arI X (d 6) 500 T]) rfl dX8_scan_300 (fun H locs hw => ?_)
                      exact lo_vret E hRt hLk hK hAe hw dX8_scan_303 rfl ⟨x + 1, 5, M 23, (by rw [hbe]; first | (exfalso; omega) | exact Or.inl ⟨by omega, by omega, by omega, by omega⟩ | (have he : spE pLe T (M 9) y = y := spE_e (fun h => by have h2 := h.2; change 97 ≤ T y.toNat ∧ T y.toNat ≤ 122 at h2; omega); exact Or.inr (Or.inl ⟨by omega, (by show 97 ≤ T x.toNat ∧ T x.toNat ≤ 122; omega), by omega, by omega, by omega⟩)) | (have he : spE pDi T (M 9) y = y := spE_e (fun h => by have h2 := h.2; change 48 ≤ T y.toNat ∧ T y.toNat ≤ 57 at h2; omega); have hf : fgE T (M 9) x y f = f := fgE_e (fun h => by have h2 := h.2; change 48 ≤ T y.toNat ∧ T y.toNat ≤ 57 at h2; omega); exact Or.inr (Or.inr (Or.inl ⟨by omega, (by show 48 ≤ T x.toNat ∧ T x.toNat ≤ 57; omega), by omega, by omega, by omega⟩))) | exact Or.inr (Or.inr (Or.inr ⟨by omega, (by show ¬ (97 ≤ T x.toNat ∧ T x.toNat ≤ 122); omega), (by show ¬ (48 ≤ T x.toNat ∧ T x.toNat ≤ 57); omega), by omega, by omega, by omega⟩))), (by omega), rfl, by rw [hbe]⟩
                  · skip
                    refine lv_iconst (v := iI 1) Ex Eb dX8_scan_248 rfl ?_
                    refine lv_goto (tgt := 290) Ex Eb dX8_scan_249 (by decide) ?_
                    refine lo_put E hK hw huRX8 tyX8 tyX8_ok nmX8 22 hf205 rfl 0 rfl rfl (by decide) rfl rfl rfl rfl (Nat.le_of_ble_eq_true rfl) (ws' := [oX8 (d 0) (M 0) (d 1) (d 2) (M 3) (d 3) (M 5) (d 4) (d 5) (d 6) (M 9) (d 7) (M 11) (M 12) (M 13) (M 14) (M 15) (M 16) (M 17) (M 18) (M 19) x x 1 (M 23) (M 24) (M 25) (M 26) (M 27) (M 28), arI X (d 6) 500 T]) rfl dX8_scan_290 (fun H locs hw => ?_)
                    refine lv_aload_n Ex Eb dX8_scan_293 rfl (lv_at hl 0 rfl) ?_
                    refine lv_dup Ex Eb dX8_scan_294 rfl ?_
                    refine lo_get E hK hw huRX8 20 hf199 rfl 0 rfl rfl (by decide) (v := .int (iI x)) rfl dX8_scan_295 ?_
                    refine lv_iconst (v := iI 1) Ex Eb dX8_scan_298 rfl ?_
                    refine lo_iadd E dX8_scan_299 ?_
                    refine lo_put E hK hw huRX8 tyX8 tyX8_ok nmX8 20 hf199 rfl 0 rfl rfl (by decide) rfl rfl rfl rfl (Nat.le_of_ble_eq_true rfl) (ws' := [oX8 (d 0) (M 0) (d 1) (d 2) (M 3) (d 3) (M 5) (d 4) (d 5) (d 6) (M 9) (d 7) (M 11) (M 12) (M 13) (M 14) (M 15) (M 16) (M 17) (M 18) (M 19) (x + 1) x 1 (M 23) (M 24) (M 25) (M 26) (M 27) (M 28), arI X (d 6) 500 T]) rfl dX8_scan_300 (fun H locs hw => ?_)
                    exact lo_vret E hRt hLk hK hAe hw dX8_scan_303 rfl ⟨x + 1, 1, M 23, (by rw [hbe]; first | (exfalso; omega) | exact Or.inl ⟨by omega, by omega, by omega, by omega⟩ | (have he : spE pLe T (M 9) y = y := spE_e (fun h => by have h2 := h.2; change 97 ≤ T y.toNat ∧ T y.toNat ≤ 122 at h2; omega); exact Or.inr (Or.inl ⟨by omega, (by show 97 ≤ T x.toNat ∧ T x.toNat ≤ 122; omega), by omega, by omega, by omega⟩)) | (have he : spE pDi T (M 9) y = y := spE_e (fun h => by have h2 := h.2; change 48 ≤ T y.toNat ∧ T y.toNat ≤ 57 at h2; omega); have hf : fgE T (M 9) x y f = f := fgE_e (fun h => by have h2 := h.2; change 48 ≤ T y.toNat ∧ T y.toNat ≤ 57 at h2; omega); exact Or.inr (Or.inr (Or.inl ⟨by omega, (by show 48 ≤ T x.toNat ∧ T x.toNat ≤ 57; omega), by omega, by omega, by omega⟩))) | exact Or.inr (Or.inr (Or.inr ⟨by omega, (by show ¬ (97 ≤ T x.toNat ∧ T x.toNat ≤ 122); omega), (by show ¬ (48 ≤ T x.toNat ∧ T x.toNat ≤ 57); omega), by omega, by omega, by omega⟩))), (by omega), rfl, by rw [hbe]⟩
                · skip
                  refine lv_aload_n Ex Eb dX8_scan_133 rfl (lv_at hl 0 rfl) ?_
                  refine lv_iconst (v := iI 0) Ex Eb dX8_scan_134 rfl ?_
                  refine lo_put E hK hw huRX8 tyX8 tyX8_ok nmX8 23 hf214 rfl 0 rfl rfl (by decide) rfl rfl rfl rfl (Nat.le_of_ble_eq_true rfl) (ws' := [oX8 (d 0) (M 0) (d 1) (d 2) (M 3) (d 3) (M 5) (d 4) (d 5) (d 6) (M 9) (d 7) (M 11) (M 12) (M 13) (M 14) (M 15) (M 16) (M 17) (M 18) (M 19) x x (M 22) 0 (M 24) (M 25) (M 26) (M 27) (M 28), arI X (d 6) 500 T]) rfl dX8_scan_135 (fun H locs hw => ?_)
                  have lp138 : ∀ (n : Nat) (y f : Int), (M 9 - y).toNat < n → (x ≤ y ∧ y ≤ M 9) → (spE pDi T (M 9) y = spE pDi T (M 9) x) → (fgE T (M 9) x y f = fgE T (M 9) x x 0) → ((y - x = 0 ∧ f = 0) ∨ (y - x = 1 ∧ 0 ≤ f ∧ f ≤ 9) ∨ (y - x = 2 ∧ 0 ≤ f ∧ f ≤ 99) ∨ (y - x = 3 ∧ 0 ≤ f ∧ f ≤ 999) ∨ (y - x = 4 ∧ 0 ≤ f ∧ f ≤ 9999) ∨ (y - x = 5 ∧ 0 ≤ f ∧ f ≤ 99999) ∨ (y - x = 6 ∧ 0 ≤ f ∧ f ≤ 999999) ∨ (7 ≤ y - x ∧ 0 ≤ f ∧ f ≤ 9999999)) → ∀ (H : Heap) (locs : List Loc) (ls : Array Slot), lo_Wd X ([oX8 (d 0) (M 0) (d 1) (d 2) (M 3) (d 3) (M 5) (d 4) (d 5) (d 6) (M 9) (d 7) (M 11) (M 12) (M 13) (M 14) (M 15) (M 16) (M 17) (M 18) (M 19) y x (M 22) f (M 24) (M 25) (M 26) (M 27) (M 28), arI X (d 6) 500 T]) A9 s9.heap H locs → lv_has ls 1 [(0, .ref (d 0))] → W p9 l e9 ({ frames := 1, cells := 0, slots := 0, locals := 21 } : Room) s9 m9 ([.ref (d 0)] : List Value).toArray bl9 me9 c9 H locs 0 0 (MQ bl9 (lo_Qc X ([oX8 (d 0) (M 0) (d 1) (d 2) (M 3) (d 3) (M 5) (d 4) (d 5) (d 6) (M 9) (d 7) (M 11) (M 12) (M 13) (M 14) (M 15) (M 16) (M 17) (M 18) (M 19) (M 20) (M 21) (M 22) (M 23) (M 24) (M 25) (M 26) (M 27) (M 28), arI X (d 6) 500 T]) s9.heap.size (fun v9 w9 => ∃ na : Int, ∃ nk : Int, ∃ ng : Int, (SCN T (M 9) (spE pSp T (M 9) (M 20)) (M 23) na nk ng) ∧ ((M 20 ≤ spE pSp T (M 9) (M 20) ∧ spE pSp T (M 9) (M 20) ≤ na ∧ na ≤ M 9) ∧ 0 ≤ ng ∧ ng ≤ 9999999) ∧ v9 = none ∧ w9 = [oX8 (d 0) (M 0) (d 1) (d 2) (M 3) (d 3) (M 5) (d 4) (d 5) (d 6) (M 9) (d 7) (M 11) (M 12) (M 13) (M 14) (M 15) (M 16) (M 17) (M 18) (M 19) na (spE pSp T (M 9) (M 20)) nk ng (M 24) (M 25) (M 26) (M 27) (M 28), arI X (d 6) 500 T])) ([.ref (d 0)] : List Value).toArray s9 0 0 A9) (F0 m9 138 ls []) := by
                    intro n
                    induction n with
                    | zero => intro y f hn; exact absurd hn (Nat.not_lt_zero _)
                    | succ n ih138 =>
                      intro y f hn138 iv138_0 iv138_1 iv138_2 iv138_3 H locs ls hw hl
                      have hTy := hT y.toNat
                      refine lv_aload_n Ex Eb dX8_scan_138 rfl (lv_at hl 0 rfl) ?_
                      refine lv_aload_n Ex Eb dX8_scan_139 rfl (lv_at hl 0 rfl) ?_
                      refine lo_get E hK hw huRX8 20 hf199 rfl 0 rfl rfl (by decide) (v := .int (iI y)) rfl dX8_scan_140 ?_
                      refine lo_callV (q0 := 0) (rest := []) E hK hw (kX8_digitAt l X d (uI (uI (uI M 20 y) 21 x) 23 f) T y (ht) (hT) (by omega)) (cwV 1 E.2.2.2.2 gX8_scan_X8_digitAt rfl rfl rfl (by decide +kernel) ⟨Nat.le_of_ble_eq_true rfl, Nat.le_of_ble_eq_true rfl⟩) rfl rfl [0, 1] rfl (by decide) hl.1 rfl rfl (Nat.le_of_ble_eq_true rfl) dX8_scan_143 ⟨Nat.le_of_ble_eq_true rfl, Nat.le_of_ble_eq_true rfl⟩ (fun v w1 H locs hq hw => ?_)
                      obtain ⟨z26, q143_0, rfl, rfl⟩ := hq
                      change (z26 = 1 ∧ y < (M 9) ∧ 48 ≤ T y.toNat ∧ T y.toNat ≤ 57) ∨ (z26 = 0 ∧ ¬ (y < (M 9) ∧ 48 ≤ T y.toNat ∧ T y.toNat ≤ 57)) at q143_0
                      have hw : lo_Wd X ([oX8 (d 0) (M 0) (d 1) (d 2) (M 3) (d 3) (M 5) (d 4) (d 5) (d 6) (M 9) (d 7) (M 11) (M 12) (M 13) (M 14) (M 15) (M 16) (M 17) (M 18) (M 19) y x (M 22) f (M 24) (M 25) (M 26) (M 27) (M 28), arI X (d 6) 500 T]) A9 s9.heap H locs := hw
                      refine W.eq (g2 := F0 m9 146 ls [.int (iI z26)]) rfl ?_
                      refine lo_if_eq (tgt := 207) E dX8_scan_146 (by decide) (by omega) (fun c27 => ?_) (fun c27 => ?_)
                      · skip
                        refine lv_aload_n Ex Eb dX8_scan_207 rfl (lv_at hl 0 rfl) ?_
                        refine lv_aload_n Ex Eb dX8_scan_208 rfl (lv_at hl 0 rfl) ?_
                        refine lo_get E hK hw huRX8 20 hf199 rfl 0 rfl rfl (by decide) (v := .int (iI y)) rfl dX8_scan_209 ?_
                        refine lv_aload_n Ex Eb dX8_scan_212 rfl (lv_at hl 0 rfl) ?_
                        refine lo_get E hK hw huRX8 21 hf202 rfl 0 rfl rfl (by decide) (v := .int (iI x)) rfl dX8_scan_213 ?_
                        refine lo_isub E dX8_scan_216 ?_
                        refine lv_bipush (v := iI 7) Ex Eb dX8_scan_217 rfl ?_
                        refine lo_icmp_le (tgt := 226) E dX8_scan_219 (by decide) (by omega) (by omega) (fun c28 => ?_) (fun c28 => ?_)
                        · skip
                          refine lv_iconst (v := iI 2) Ex Eb dX8_scan_226 rfl ?_
                          refine lo_put E hK hw huRX8 tyX8 tyX8_ok nmX8 22 hf205 rfl 0 rfl rfl (by decide) rfl rfl rfl rfl (Nat.le_of_ble_eq_true rfl) (ws' := [oX8 (d 0) (M 0) (d 1) (d 2) (M 3) (d 3) (M 5) (d 4) (d 5) (d 6) (M 9) (d 7) (M 11) (M 12) (M 13) (M 14) (M 15) (M 16) (M 17) (M 18) (M 19) y x 2 f (M 24) (M 25) (M 26) (M 27) (M 28), arI X (d 6) 500 T]) rfl dX8_scan_227 (fun H locs hw => ?_)
                          refine lv_goto (tgt := 303) Ex Eb dX8_scan_230 (by decide) ?_
                          exact lo_vret E hRt hLk hK hAe hw dX8_scan_303 rfl ⟨y, 2, f, (by rw [hbe]; first | (exfalso; omega) | exact Or.inl ⟨by omega, by omega, by omega, by omega⟩ | (have he : spE pLe T (M 9) y = y := spE_e (fun h => by have h2 := h.2; change 97 ≤ T y.toNat ∧ T y.toNat ≤ 122 at h2; omega); exact Or.inr (Or.inl ⟨by omega, (by show 97 ≤ T x.toNat ∧ T x.toNat ≤ 122; omega), by omega, by omega, by omega⟩)) | (have he : spE pDi T (M 9) y = y := spE_e (fun h => by have h2 := h.2; change 48 ≤ T y.toNat ∧ T y.toNat ≤ 57 at h2; omega); have hf : fgE T (M 9) x y f = f := fgE_e (fun h => by have h2 := h.2; change 48 ≤ T y.toNat ∧ T y.toNat ≤ 57 at h2; omega); exact Or.inr (Or.inr (Or.inl ⟨by omega, (by show 48 ≤ T x.toNat ∧ T x.toNat ≤ 57; omega), by omega, by omega, by omega⟩))) | exact Or.inr (Or.inr (Or.inr ⟨by omega, (by show ¬ (97 ≤ T x.toNat ∧ T x.toNat ≤ 122); omega), (by show ¬ (48 ≤ T x.toNat ∧ T x.toNat ≤ 57); omega), by omega, by omega, by omega⟩))), (by omega), rfl, by rw [hbe]⟩
                        · skip
                          refine lv_iconst (v := iI 4) Ex Eb dX8_scan_222 rfl ?_
                          refine lv_goto (tgt := 227) Ex Eb dX8_scan_223 (by decide) ?_
                          refine lo_put E hK hw huRX8 tyX8 tyX8_ok nmX8 22 hf205 rfl 0 rfl rfl (by decide) rfl rfl rfl rfl (Nat.le_of_ble_eq_true rfl) (ws' := [oX8 (d 0) (M 0) (d 1) (d 2) (M 3) (d 3) (M 5) (d 4) (d 5) (d 6) (M 9) (d 7) (M 11) (M 12) (M 13) (M 14) (M 15) (M 16) (M 17) (M 18) (M 19) y x 4 f (M 24) (M 25) (M 26) (M 27) (M 28), arI X (d 6) 500 T]) rfl dX8_scan_227 (fun H locs hw => ?_)
                          refine lv_goto (tgt := 303) Ex Eb dX8_scan_230 (by decide) ?_
                          exact lo_vret E hRt hLk hK hAe hw dX8_scan_303 rfl ⟨y, 4, f, (by rw [hbe]; first | (exfalso; omega) | exact Or.inl ⟨by omega, by omega, by omega, by omega⟩ | (have he : spE pLe T (M 9) y = y := spE_e (fun h => by have h2 := h.2; change 97 ≤ T y.toNat ∧ T y.toNat ≤ 122 at h2; omega); exact Or.inr (Or.inl ⟨by omega, (by show 97 ≤ T x.toNat ∧ T x.toNat ≤ 122; omega), by omega, by omega, by omega⟩)) | (have he : spE pDi T (M 9) y = y := spE_e (fun h => by have h2 := h.2; change 48 ≤ T y.toNat ∧ T y.toNat ≤ 57 at h2; omega); have hf : fgE T (M 9) x y f = f := fgE_e (fun h => by have h2 := h.2; change 48 ≤ T y.toNat ∧ T y.toNat ≤ 57 at h2; omega); exact Or.inr (Or.inr (Or.inl ⟨by omega, (by show 48 ≤ T x.toNat ∧ T x.toNat ≤ 57; omega), by omega, by omega, by omega⟩))) | exact Or.inr (Or.inr (Or.inr ⟨by omega, (by show ¬ (97 ≤ T x.toNat ∧ T x.toNat ≤ 122); omega), (by show ¬ (48 ≤ T x.toNat ∧ T x.toNat ≤ 57); omega), by omega, by omega, by omega⟩))), (by omega), rfl, by rw [hbe]⟩
                      · skip
                        refine lv_aload_n Ex Eb dX8_scan_149 rfl (lv_at hl 0 rfl) ?_
                        refine lv_aload_n Ex Eb dX8_scan_150 rfl (lv_at hl 0 rfl) ?_
                        refine lo_get E hK hw huRX8 20 hf199 rfl 0 rfl rfl (by decide) (v := .int (iI y)) rfl dX8_scan_151 ?_
                        refine lv_aload_n Ex Eb dX8_scan_154 rfl (lv_at hl 0 rfl) ?_
                        refine lo_get E hK hw huRX8 21 hf202 rfl 0 rfl rfl (by decide) (v := .int (iI x)) rfl dX8_scan_155 ?_
                        refine lo_isub E dX8_scan_158 ?_
                        refine lv_bipush (v := iI 7) Ex Eb dX8_scan_159 rfl ?_
                        refine lo_icmp_ge (tgt := 187) E dX8_scan_161 (by decide) (by omega) (by omega) (fun c29 => ?_) (fun c29 => ?_)
                        · skip
                          refine lv_aload_n Ex Eb dX8_scan_187 rfl (lv_at hl 0 rfl) ?_
                          refine lo_get E hK hw huRX8 23 hf214 rfl 0 rfl rfl (by decide) (v := .int (iI f)) rfl dX8_scan_188 ?_
                          refine lo_put E hK hw huRX8 tyX8 tyX8_ok nmX8 23 hf214 rfl 0 rfl rfl (by decide) rfl rfl rfl rfl (Nat.le_of_ble_eq_true rfl) (ws' := [oX8 (d 0) (M 0) (d 1) (d 2) (M 3) (d 3) (M 5) (d 4) (d 5) (d 6) (M 9) (d 7) (M 11) (M 12) (M 13) (M 14) (M 15) (M 16) (M 17) (M 18) (M 19) y x (M 22) f (M 24) (M 25) (M 26) (M 27) (M 28), arI X (d 6) 500 T]) rfl dX8_scan_191 (fun H locs hw => ?_)
                          refine lv_aload_n Ex Eb dX8_scan_194 rfl (lv_at hl 0 rfl) ?_
                          refine lv_dup Ex Eb dX8_scan_195 rfl ?_
                          refine lo_get E hK hw huRX8 20 hf199 rfl 0 rfl rfl (by decide) (v := .int (iI y)) rfl dX8_scan_196 ?_
                          refine lv_iconst (v := iI 1) Ex Eb dX8_scan_199 rfl ?_
                          refine lo_iadd E dX8_scan_200 ?_
                          refine lo_put E hK hw huRX8 tyX8 tyX8_ok nmX8 20 hf199 rfl 0 rfl rfl (by decide) rfl rfl rfl rfl (Nat.le_of_ble_eq_true rfl) (ws' := [oX8 (d 0) (M 0) (d 1) (d 2) (M 3) (d 3) (M 5) (d 4) (d 5) (d 6) (M 9) (d 7) (M 11) (M 12) (M 13) (M 14) (M 15) (M 16) (M 17) (M 18) (M 19) (y + 1) x (M 22) f (M 24) (M 25) (M 26) (M 27) (M 28), arI X (d 6) 500 T]) rfl dX8_scan_201 (fun H locs hw => ?_)
                          refine lv_goto (tgt := 138) Ex Eb dX8_scan_204 (by decide) ?_
                          exact ih138 (y + 1) f (by omega) (by omega) (by rw [← iv138_1]; exact (spE_s (by omega) (by show 48 ≤ T y.toNat ∧ T y.toNat ≤ 57; omega)).symm) (by rw [← iv138_2]; exact (fgE_s (by omega) (by show 48 ≤ T y.toNat ∧ T y.toNat ≤ 57; omega) (by omega)).symm) (by omega) _ _ _ hw (lv_sub hl [0] rfl)
                        · skip
                          refine lv_bipush (v := iI 10) Ex Eb dX8_scan_164 rfl ?_
                          refine lv_aload_n Ex Eb dX8_scan_166 rfl (lv_at hl 0 rfl) ?_
                          refine lo_get E hK hw huRX8 23 hf214 rfl 0 rfl rfl (by decide) (v := .int (iI f)) rfl dX8_scan_167 ?_
                          refine lo_imul E dX8_scan_170 ?_
                          refine lv_aload_n Ex Eb dX8_scan_171 rfl (lv_at hl 0 rfl) ?_
                          refine lo_get E hK hw huRX8 8 hf27 rfl 0 rfl rfl (by decide) (v := .ref (d 6)) rfl dX8_scan_172 ?_
                          refine lv_aload_n Ex Eb dX8_scan_175 rfl (lv_at hl 0 rfl) ?_
                          refine lo_get E hK hw huRX8 20 hf199 rfl 0 rfl rfl (by decide) (v := .int (iI y)) rfl dX8_scan_176 ?_
                          refine lo_iald E hK hw 1 rfl (by omega) dX8_scan_179 ?_
                          refine lo_iadd E dX8_scan_180 ?_
                          refine lv_bipush (v := iI 48) Ex Eb dX8_scan_181 rfl ?_
                          refine lo_isub E dX8_scan_183 ?_
                          refine lv_goto (tgt := 191) Ex Eb dX8_scan_184 (by decide) ?_
                          refine lo_put E hK hw huRX8 tyX8 tyX8_ok nmX8 23 hf214 rfl 0 rfl rfl (by decide) rfl rfl rfl rfl (Nat.le_of_ble_eq_true rfl) (ws' := [oX8 (d 0) (M 0) (d 1) (d 2) (M 3) (d 3) (M 5) (d 4) (d 5) (d 6) (M 9) (d 7) (M 11) (M 12) (M 13) (M 14) (M 15) (M 16) (M 17) (M 18) (M 19) y x (M 22) (((10 * f) + (T y.toNat)) - 48) (M 24) (M 25) (M 26) (M 27) (M 28), arI X (d 6) 500 T]) rfl dX8_scan_191 (fun H locs hw => ?_)
                          refine lv_aload_n Ex Eb dX8_scan_194 rfl (lv_at hl 0 rfl) ?_
                          refine lv_dup Ex Eb dX8_scan_195 rfl ?_
                          refine lo_get E hK hw huRX8 20 hf199 rfl 0 rfl rfl (by decide) (v := .int (iI y)) rfl dX8_scan_196 ?_
                          refine lv_iconst (v := iI 1) Ex Eb dX8_scan_199 rfl ?_
                          refine lo_iadd E dX8_scan_200 ?_
                          refine lo_put E hK hw huRX8 tyX8 tyX8_ok nmX8 20 hf199 rfl 0 rfl rfl (by decide) rfl rfl rfl rfl (Nat.le_of_ble_eq_true rfl) (ws' := [oX8 (d 0) (M 0) (d 1) (d 2) (M 3) (d 3) (M 5) (d 4) (d 5) (d 6) (M 9) (d 7) (M 11) (M 12) (M 13) (M 14) (M 15) (M 16) (M 17) (M 18) (M 19) (y + 1) x (M 22) (((10 * f) + (T y.toNat)) - 48) (M 24) (M 25) (M 26) (M 27) (M 28), arI X (d 6) 500 T]) rfl dX8_scan_201 (fun H locs hw => ?_)
                          refine lv_goto (tgt := 138) Ex Eb dX8_scan_204 (by decide) ?_
                          exact ih138 (y + 1) (((10 * f) + (T y.toNat)) - 48) (by omega) (by omega) (by rw [← iv138_1]; exact (spE_s (by omega) (by show 48 ≤ T y.toNat ∧ T y.toNat ≤ 57; omega)).symm) (by rw [← iv138_2]; exact (fgE_s (by omega) (by show 48 ≤ T y.toNat ∧ T y.toNat ≤ 57; omega) (by omega)).symm) (by omega) _ _ _ hw (lv_sub hl [0] rfl)
                  exact lp138 _ x 0 (Nat.lt_succ_self _) (by omega) (rfl) (rfl) (by omega) _ _ _ hw (lv_sub hl [0] rfl)
              · skip
                have lp90 : ∀ (n : Nat) (y : Int), (M 9 - y).toNat < n → (x ≤ y ∧ y ≤ M 9) → (spE pLe T (M 9) y = spE pLe T (M 9) x) → ∀ (H : Heap) (locs : List Loc) (ls : Array Slot), lo_Wd X ([oX8 (d 0) (M 0) (d 1) (d 2) (M 3) (d 3) (M 5) (d 4) (d 5) (d 6) (M 9) (d 7) (M 11) (M 12) (M 13) (M 14) (M 15) (M 16) (M 17) (M 18) (M 19) y x (M 22) (M 23) (M 24) (M 25) (M 26) (M 27) (M 28), arI X (d 6) 500 T]) A9 s9.heap H locs → lv_has ls 1 [(0, .ref (d 0))] → W p9 l e9 ({ frames := 1, cells := 0, slots := 0, locals := 21 } : Room) s9 m9 ([.ref (d 0)] : List Value).toArray bl9 me9 c9 H locs 0 0 (MQ bl9 (lo_Qc X ([oX8 (d 0) (M 0) (d 1) (d 2) (M 3) (d 3) (M 5) (d 4) (d 5) (d 6) (M 9) (d 7) (M 11) (M 12) (M 13) (M 14) (M 15) (M 16) (M 17) (M 18) (M 19) (M 20) (M 21) (M 22) (M 23) (M 24) (M 25) (M 26) (M 27) (M 28), arI X (d 6) 500 T]) s9.heap.size (fun v9 w9 => ∃ na : Int, ∃ nk : Int, ∃ ng : Int, (SCN T (M 9) (spE pSp T (M 9) (M 20)) (M 23) na nk ng) ∧ ((M 20 ≤ spE pSp T (M 9) (M 20) ∧ spE pSp T (M 9) (M 20) ≤ na ∧ na ≤ M 9) ∧ 0 ≤ ng ∧ ng ≤ 9999999) ∧ v9 = none ∧ w9 = [oX8 (d 0) (M 0) (d 1) (d 2) (M 3) (d 3) (M 5) (d 4) (d 5) (d 6) (M 9) (d 7) (M 11) (M 12) (M 13) (M 14) (M 15) (M 16) (M 17) (M 18) (M 19) na (spE pSp T (M 9) (M 20)) nk ng (M 24) (M 25) (M 26) (M 27) (M 28), arI X (d 6) 500 T])) ([.ref (d 0)] : List Value).toArray s9 0 0 A9) (F0 m9 90 ls []) := by
                  intro n
                  induction n with
                  | zero => intro y hn; exact absurd hn (Nat.not_lt_zero _)
                  | succ n ih90 =>
                    intro y hn90 iv90_0 iv90_1 H locs ls hw hl
                    have hTy := hT y.toNat
                    refine lv_aload_n Ex Eb dX8_scan_90 rfl (lv_at hl 0 rfl) ?_
                    refine lv_aload_n Ex Eb dX8_scan_91 rfl (lv_at hl 0 rfl) ?_
                    refine lo_get E hK hw huRX8 20 hf199 rfl 0 rfl rfl (by decide) (v := .int (iI y)) rfl dX8_scan_92 ?_
                    refine lo_callV (q0 := 0) (rest := []) E hK hw (kX8_letterAt l X d (uI (uI M 20 y) 21 x) T y (ht) (hT) (by omega)) (cwV 1 E.2.2.2.2 gX8_scan_X8_letterAt rfl rfl rfl (by decide +kernel) ⟨Nat.le_of_ble_eq_true rfl, Nat.le_of_ble_eq_true rfl⟩) rfl rfl [0, 1] rfl (by decide) hl.1 rfl rfl (Nat.le_of_ble_eq_true rfl) dX8_scan_95 ⟨Nat.le_of_ble_eq_true rfl, Nat.le_of_ble_eq_true rfl⟩ (fun v w1 H locs hq hw => ?_)
                    obtain ⟨z30, q95_0, rfl, rfl⟩ := hq
                    change (z30 = 1 ∧ y < (M 9) ∧ 97 ≤ T y.toNat ∧ T y.toNat ≤ 122) ∨ (z30 = 0 ∧ ¬ (y < (M 9) ∧ 97 ≤ T y.toNat ∧ T y.toNat ≤ 122)) at q95_0
                    have hw : lo_Wd X ([oX8 (d 0) (M 0) (d 1) (d 2) (M 3) (d 3) (M 5) (d 4) (d 5) (d 6) (M 9) (d 7) (M 11) (M 12) (M 13) (M 14) (M 15) (M 16) (M 17) (M 18) (M 19) y x (M 22) (M 23) (M 24) (M 25) (M 26) (M 27) (M 28), arI X (d 6) 500 T]) A9 s9.heap H locs := hw
                    refine W.eq (g2 := F0 m9 98 ls [.int (iI z30)]) rfl ?_
                    refine lo_if_eq (tgt := 114) E dX8_scan_98 (by decide) (by omega) (fun c31 => ?_) (fun c31 => ?_)
                    · skip
                      refine lv_aload_n Ex Eb dX8_scan_114 rfl (lv_at hl 0 rfl) ?_
                      refine lv_iconst (v := iI 3) Ex Eb dX8_scan_115 rfl ?_
                      refine lo_put E hK hw huRX8 tyX8 tyX8_ok nmX8 22 hf205 rfl 0 rfl rfl (by decide) rfl rfl rfl rfl (Nat.le_of_ble_eq_true rfl) (ws' := [oX8 (d 0) (M 0) (d 1) (d 2) (M 3) (d 3) (M 5) (d 4) (d 5) (d 6) (M 9) (d 7) (M 11) (M 12) (M 13) (M 14) (M 15) (M 16) (M 17) (M 18) (M 19) y x 3 (M 23) (M 24) (M 25) (M 26) (M 27) (M 28), arI X (d 6) 500 T]) rfl dX8_scan_116 (fun H locs hw => ?_)
                      refine lv_goto (tgt := 303) Ex Eb dX8_scan_119 (by decide) ?_
                      exact lo_vret E hRt hLk hK hAe hw dX8_scan_303 rfl ⟨y, 3, M 23, (by rw [hbe]; first | (exfalso; omega) | exact Or.inl ⟨by omega, by omega, by omega, by omega⟩ | (have he : spE pLe T (M 9) y = y := spE_e (fun h => by have h2 := h.2; change 97 ≤ T y.toNat ∧ T y.toNat ≤ 122 at h2; omega); exact Or.inr (Or.inl ⟨by omega, (by show 97 ≤ T x.toNat ∧ T x.toNat ≤ 122; omega), by omega, by omega, by omega⟩)) | (have he : spE pDi T (M 9) y = y := spE_e (fun h => by have h2 := h.2; change 48 ≤ T y.toNat ∧ T y.toNat ≤ 57 at h2; omega); have hf : fgE T (M 9) x y f = f := fgE_e (fun h => by have h2 := h.2; change 48 ≤ T y.toNat ∧ T y.toNat ≤ 57 at h2; omega); exact Or.inr (Or.inr (Or.inl ⟨by omega, (by show 48 ≤ T x.toNat ∧ T x.toNat ≤ 57; omega), by omega, by omega, by omega⟩))) | exact Or.inr (Or.inr (Or.inr ⟨by omega, (by show ¬ (97 ≤ T x.toNat ∧ T x.toNat ≤ 122); omega), (by show ¬ (48 ≤ T x.toNat ∧ T x.toNat ≤ 57); omega), by omega, by omega, by omega⟩))), (by omega), rfl, by rw [hbe]⟩
                    · skip
                      refine lv_aload_n Ex Eb dX8_scan_101 rfl (lv_at hl 0 rfl) ?_
                      refine lv_dup Ex Eb dX8_scan_102 rfl ?_
                      refine lo_get E hK hw huRX8 20 hf199 rfl 0 rfl rfl (by decide) (v := .int (iI y)) rfl dX8_scan_103 ?_
                      refine lv_iconst (v := iI 1) Ex Eb dX8_scan_106 rfl ?_
                      refine lo_iadd E dX8_scan_107 ?_
                      refine lo_put E hK hw huRX8 tyX8 tyX8_ok nmX8 20 hf199 rfl 0 rfl rfl (by decide) rfl rfl rfl rfl (Nat.le_of_ble_eq_true rfl) (ws' := [oX8 (d 0) (M 0) (d 1) (d 2) (M 3) (d 3) (M 5) (d 4) (d 5) (d 6) (M 9) (d 7) (M 11) (M 12) (M 13) (M 14) (M 15) (M 16) (M 17) (M 18) (M 19) (y + 1) x (M 22) (M 23) (M 24) (M 25) (M 26) (M 27) (M 28), arI X (d 6) 500 T]) rfl dX8_scan_108 (fun H locs hw => ?_)
                      refine lv_goto (tgt := 90) Ex Eb dX8_scan_111 (by decide) ?_
                      exact ih90 (y + 1) (by omega) (by omega) (by rw [← iv90_1]; exact (spE_s (by omega) (by show 97 ≤ T y.toNat ∧ T y.toNat ≤ 122; omega)).symm) _ _ _ hw (lv_sub hl [0] rfl)
                exact lp90 _ x (Nat.lt_succ_self _) (by omega) (rfl) _ _ _ hw (lv_sub hl [0] rfl)
            · skip
              refine lv_aload_n Ex Eb dX8_scan_71 rfl (lv_at hl 0 rfl) ?_
              refine lv_iconst (v := iI 0) Ex Eb dX8_scan_72 rfl ?_
              refine lo_put E hK hw huRX8 tyX8 tyX8_ok nmX8 22 hf205 rfl 0 rfl rfl (by decide) rfl rfl rfl rfl (Nat.le_of_ble_eq_true rfl) (ws' := [oX8 (d 0) (M 0) (d 1) (d 2) (M 3) (d 3) (M 5) (d 4) (d 5) (d 6) (M 9) (d 7) (M 11) (M 12) (M 13) (M 14) (M 15) (M 16) (M 17) (M 18) (M 19) x x 0 (M 23) (M 24) (M 25) (M 26) (M 27) (M 28), arI X (d 6) 500 T]) rfl dX8_scan_73 (fun H locs hw => ?_)
              refine lv_goto (tgt := 303) Ex Eb dX8_scan_76 (by decide) ?_
              exact lo_vret E hRt hLk hK hAe hw dX8_scan_303 rfl ⟨x, 0, M 23, (by rw [hbe]; first | (exfalso; omega) | exact Or.inl ⟨by omega, by omega, by omega, by omega⟩ | (have he : spE pLe T (M 9) y = y := spE_e (fun h => by have h2 := h.2; change 97 ≤ T y.toNat ∧ T y.toNat ≤ 122 at h2; omega); exact Or.inr (Or.inl ⟨by omega, (by show 97 ≤ T x.toNat ∧ T x.toNat ≤ 122; omega), by omega, by omega, by omega⟩)) | (have he : spE pDi T (M 9) y = y := spE_e (fun h => by have h2 := h.2; change 48 ≤ T y.toNat ∧ T y.toNat ≤ 57 at h2; omega); have hf : fgE T (M 9) x y f = f := fgE_e (fun h => by have h2 := h.2; change 48 ≤ T y.toNat ∧ T y.toNat ≤ 57 at h2; omega); exact Or.inr (Or.inr (Or.inl ⟨by omega, (by show 48 ≤ T x.toNat ∧ T x.toNat ≤ 57; omega), by omega, by omega, by omega⟩))) | exact Or.inr (Or.inr (Or.inr ⟨by omega, (by show ¬ (97 ≤ T x.toNat ∧ T x.toNat ≤ 122); omega), (by show ¬ (48 ≤ T x.toNat ∧ T x.toNat ≤ 57); omega), by omega, by omega, by omega⟩))), (by omega), rfl, by rw [hbe]⟩
          · skip
            refine lv_aload_n Ex Eb dX8_scan_39 rfl (lv_at hl 0 rfl) ?_
            refine lv_dup Ex Eb dX8_scan_40 rfl ?_
            refine lo_get E hK hw huRX8 20 hf199 rfl 0 rfl rfl (by decide) (v := .int (iI x)) rfl dX8_scan_41 ?_
            refine lv_iconst (v := iI 1) Ex Eb dX8_scan_44 rfl ?_
            refine lo_iadd E dX8_scan_45 ?_
            refine lo_put E hK hw huRX8 tyX8 tyX8_ok nmX8 20 hf199 rfl 0 rfl rfl (by decide) rfl rfl rfl rfl (Nat.le_of_ble_eq_true rfl) (ws' := [oX8 (d 0) (M 0) (d 1) (d 2) (M 3) (d 3) (M 5) (d 4) (d 5) (d 6) (M 9) (d 7) (M 11) (M 12) (M 13) (M 14) (M 15) (M 16) (M 17) (M 18) (M 19) (x + 1) (M 21) (M 22) (M 23) (M 24) (M 25) (M 26) (M 27) (M 28), arI X (d 6) 500 T]) rfl dX8_scan_46 (fun H locs hw => ?_)
            refine lv_goto (tgt := 0) Ex Eb dX8_scan_49 (by decide) ?_
            exact ih0 (x + 1) (by omega) (by omega) (by rw [← iv0_1]; exact (spE_s (by omega) (by show T x.toNat = 32 ∨ T x.toNat = 10; omega)).symm) _ _ _ hw (lv_sub hl [0] rfl)
  exact lp0 _ (M 20) (Nat.lt_succ_self _) (by omega) (rfl) _ _ _ hw (lv_sub hl [0] rfl)
set_option maxHeartbeats 4000000 in
set_option maxRecDepth 100000 in
theorem kX8_advance (l : Launch) (X : KX) (d : Nat → Nat) (M T : Nat → Int) (ht : 0 ≤ M 9 ∧ M 9 ≤ 500) (hT : ∀ k : Nat, 0 ≤ T k ∧ T k ≤ 255) (ha : 0 ≤ M 20 ∧ M 20 ≤ M 9) (hg : 0 ≤ M 23 ∧ M 23 ≤ 9999999) (he : i32 (M 24)) : CM l X yX8_advance wsX8_advance ({ frames := 2, cells := 0, slots := 0, locals := 41 }) [.ref (d 0)] ([oX8 (d 0) (M 0) (d 1) (d 2) (M 3) (d 3) (M 5) (d 4) (d 5) (d 6) (M 9) (d 7) (M 11) (M 12) (M 13) (M 14) (M 15) (M 16) (M 17) (M 18) (M 19) (M 20) (M 21) (M 22) (M 23) (M 24) (M 25) (M 26) (M 27) (M 28), arI X (d 6) 500 T]) (fun v9 w9 => ∃ nb : Int, ∃ na : Int, ∃ nk : Int, ∃ ng : Int, ((M 24 = 0 ∧ nb = spE pSp T (M 9) (M 20) ∧ SCN T (M 9) nb (M 23) na nk ng) ∨ (M 24 ≠ 0 ∧ na = M 20 ∧ nb = M 21 ∧ nk = M 22 ∧ ng = M 23)) ∧ (0 ≤ na ∧ na ≤ M 9 ∧ 0 ≤ ng ∧ ng ≤ 9999999) ∧ v9 = none ∧ w9 = [oX8 (d 0) (M 0) (d 1) (d 2) (M 3) (d 3) (M 5) (d 4) (d 5) (d 6) (M 9) (d 7) (M 11) (M 12) (M 13) (M 14) (M 15) (M 16) (M 17) (M 18) (M 19) na nb nk ng (M 24) (M 25) (M 26) (M 27) (M 28), arI X (d 6) 500 T]) 0 0 := by
  refine lo_enter (cc := cX8_advance) (maxL := 1) (ret := none) (lv := [(0, .ref (d 0))]) (by decide) rfl rfl (Nat.le_of_ble_eq_true rfl) ?_
  intro p9 e9 s9 m9 bl9 me9 c9 A9 ls hAe E hRt hLk hK hl hw
  have Ex := E.1
  have Eb := E.2.1
  refine lv_aload_n Ex Eb dX8_advance_0 rfl (lv_at hl 0 rfl) ?_
  refine lo_callV (q0 := 0) (rest := []) E hK hw (kX8_good l X d M (he)) (cwV 0 E.2.2.2.2 gX8_advance_X8_good rfl rfl rfl (by decide +kernel) ⟨Nat.le_of_ble_eq_true rfl, Nat.le_of_ble_eq_true rfl⟩) rfl rfl [0] rfl (by decide) hl.1 rfl rfl (Nat.le_of_ble_eq_true rfl) dX8_advance_1 ⟨Nat.le_of_ble_eq_true rfl, Nat.le_of_ble_eq_true rfl⟩ (fun v w1 H locs hq hw => ?_)
  obtain ⟨z1, q1_0, rfl, rfl⟩ := hq
  have hw : lo_Wd X ([oX8 (d 0) (M 0) (d 1) (d 2) (M 3) (d 3) (M 5) (d 4) (d 5) (d 6) (M 9) (d 7) (M 11) (M 12) (M 13) (M 14) (M 15) (M 16) (M 17) (M 18) (M 19) (M 20) (M 21) (M 22) (M 23) (M 24) (M 25) (M 26) (M 27) (M 28), arI X (d 6) 500 T]) A9 s9.heap H locs := hw
  refine W.eq (g2 := F0 m9 4 ls [.int (iI z1)]) rfl ?_
  refine lo_if_eq (tgt := 11) E dX8_advance_4 (by decide) (by omega) (fun c2 => ?_) (fun c2 => ?_)
  · skip
    exact lo_vret E hRt hLk hK hAe hw dX8_advance_11 rfl ⟨M 21, M 20, M 22, M 23, (by first | exact Or.inl ⟨by omega, rfl, q8_0⟩ | exact Or.inr ⟨by omega, rfl, rfl, rfl, rfl⟩), (by omega), rfl, rfl⟩
  · skip
    refine lv_aload_n Ex Eb dX8_advance_7 rfl (lv_at hl 0 rfl) ?_
    refine lo_callV (q0 := 0) (rest := []) E hK hw (kX8_scan l X d M T (ht) (hT) (ha) (hg)) (cwV 0 E.2.2.2.2 gX8_advance_X8_scan rfl rfl rfl (by decide +kernel) ⟨Nat.le_of_ble_eq_true rfl, Nat.le_of_ble_eq_true rfl⟩) rfl rfl [0, 1] rfl (by decide) hl.1 rfl rfl (Nat.le_of_ble_eq_true rfl) dX8_advance_8 ⟨Nat.le_of_ble_eq_true rfl, Nat.le_of_ble_eq_true rfl⟩ (fun v w1 H locs hq hw => ?_)
    obtain ⟨na3, nk4, ng5, q8_0, q8_1, rfl, rfl⟩ := hq
    have hw : lo_Wd X ([oX8 (d 0) (M 0) (d 1) (d 2) (M 3) (d 3) (M 5) (d 4) (d 5) (d 6) (M 9) (d 7) (M 11) (M 12) (M 13) (M 14) (M 15) (M 16) (M 17) (M 18) (M 19) na3 (spE pSp T (M 9) (M 20)) nk4 ng5 (M 24) (M 25) (M 26) (M 27) (M 28), arI X (d 6) 500 T]) A9 s9.heap H locs := hw
    refine W.eq (g2 := F0 m9 11 ls []) rfl ?_
    exact lo_vret E hRt hLk hK hAe hw dX8_advance_11 rfl ⟨spE pSp T (M 9) (M 20), na3, nk4, ng5, (by first | exact Or.inl ⟨by omega, rfl, q8_0⟩ | exact Or.inr ⟨by omega, rfl, rfl, rfl, rfl⟩), (by omega), rfl, rfl⟩
