set_option maxHeartbeats 4000000 in
set_option maxRecDepth 100000 in
theorem kX8_remember (l : Launch) (X : KX) (kS : Nat → Nat) (d r q : Nat → Nat) (M : Nat → Int) (C : Nat → Nat → Int) (b : Nat) (g : Nat → Int) (hpc : 0 ≤ M 3 ∧ M 3 ≤ 8) (hq : ∀ j, j < 8 → q j < 8) : CE l X kS yX8_remember wsX8_remember ({ frames := 1, cells := 0, slots := 0, locals := 22 }) [.ref (d 0), .ref b] ([oX8 (d 0) (M 0) (d 1) (d 2) (M 3) (d 3) (M 5) (d 4) (d 5) (d 6) (M 9) (d 7) (M 11) (M 12) (M 13) (M 14) (M 15) (M 16) (M 17) (M 18) (M 19) (M 20) (M 21) (M 22) (M 23) (M 24) (M 25) (M 26) (M 27) (M 28), arI X b 122 g, arA X (d 2) 8 (rq r q)] ++ ((rwW X r C))) (fun v9 w9 => v9 = none ∧ w9 = [oX8 (d 0) (M 0) (d 1) (d 2) (min (M 3 + 1) 8) (d 3) (M 5) (d 4) (d 5) (d 6) (M 9) (d 7) (M 11) (M 12) (M 13) (M 14) (M 15) (M 16) (M 17) (M 18) (M 19) (M 20) (M 21) (M 22) (M 23) (M 24) (M 25) (M 26) (M 27) (M 28), arI X b 122 g, arA X (d 2) 8 (rq r (rmQ q (M 3)))] ++ ((rwW X r (rmC C q (M 3) g)))) 0 0 := by
  refine lo_enterE (cc := cX8_remember) (maxL := 4) (ret := none) (lv := [(0, .ref (d 0)), (1, .ref b)]) (by decide) rfl rfl (Nat.le_of_ble_eq_true rfl) ?_
  intro p9 e9 s9 m9 bl9 me9 c9 A9 ls hAe E hRt hLk hK hl hw hV
  have Ex := E.1
  have Eb := E.2.1
  have huRX8 : ∀ w ∈ u_ws RX8 TX8 29, w ∈ wsX8_remember := by decide +kernel
  have hf59 : (Cond.fieldLink RX8 59 "LoanScheduleModel" "pastCount" "I").before _ s9 = true := E.2.2.2.2 _ (List.mem_of_getElem? (i := 1) rfl)
  have hf15 : (Cond.fieldLink RX8 15 "LoanScheduleModel" "past" "[[I").before _ s9 = true := E.2.2.2.2 _ (List.mem_of_getElem? (i := 2) rfl)
  have hq0 := hq 0 (by omega)
  refine lv_aload_n Ex Eb dX8_remember_0 rfl (lv_at hl 0 rfl) ?_
  refine lo_get E hK hw huRX8 3 hf59 rfl 0 rfl rfl (by decide) (v := .int (iI (M 3))) rfl dX8_remember_1 ?_
  refine lv_bipush (v := iI 8) Ex Eb dX8_remember_4 rfl ?_
  refine lo_icmp_ne (tgt := 62) E dX8_remember_6 (by decide) (by omega) (by omega) (fun c1 => ?_) (fun c1 => ?_)
  · skip
    have hqm : M 3 = 8 ∨ q (M 3).toNat < 8 := by by_cases h : M 3 = 8; exact Or.inl h; exact Or.inr (hq _ (by omega))
    refine lv_aload_n Ex Eb dX8_remember_62 rfl (lv_at hl 1 rfl) ?_
    refine lv_aload_n Ex Eb dX8_remember_63 rfl (lv_at hl 0 rfl) ?_
    refine lo_get E hK hw huRX8 2 hf15 rfl 0 rfl rfl (by decide) (v := .ref (d 2)) rfl dX8_remember_64 ?_
    refine lv_aload_n Ex Eb dX8_remember_67 rfl (lv_at hl 0 rfl) ?_
    refine lo_get E hK hw huRX8 3 hf59 rfl 0 rfl rfl (by decide) (v := .int (iI (M 3))) rfl dX8_remember_68 ?_
    refine lo_aldA E hK hw 2 rfl (by omega) dX8_remember_71 ?_
    refine W.eq (g2 := F0 m9 72 ls [.ref (r (q (M 3).toNat)), .ref b]) rfl ?_
    refine lo_callS (rest := []) E hK hw (kX8_copy l X b (r (q (M 3).toNat)) g (C (q (M 3).toNat)) ) (cwS 2 E.2.2.2.2 gX8_remember_X8_copy rfl rfl rfl (by decide +kernel) ⟨Nat.le_of_ble_eq_true rfl, Nat.le_of_ble_eq_true rfl⟩) [1, 3 + (q (M 3).toNat)] (lo_ps_cons rfl (lo_ps_cons (rwW_atE (k := 3) rfl (by first | exact hr7 | omega)) lo_ps_nil)) (nd_2 (by omega)) hl.1 rfl rfl (Nat.le_of_ble_eq_true rfl) dX8_remember_72 ⟨Nat.le_of_ble_eq_true rfl, Nat.le_of_ble_eq_true rfl⟩ (fun v w1 H locs hq hw => ?_)
    obtain ⟨rfl, rfl⟩ := hq
    have hw := lo_cast (rwW_cp (j := 1) (k := 3) rfl rfl (by first | exact hr7 | omega)) hw
    have hw : lo_Wd X ([oX8 (d 0) (M 0) (d 1) (d 2) (M 3) (d 3) (M 5) (d 4) (d 5) (d 6) (M 9) (d 7) (M 11) (M 12) (M 13) (M 14) (M 15) (M 16) (M 17) (M 18) (M 19) (M 20) (M 21) (M 22) (M 23) (M 24) (M 25) (M 26) (M 27) (M 28), arI X b 122 g, arA X (d 2) 8 (rq r q)] ++ ((rwW X r (uF C (q (M 3).toNat) g)))) A9 s9.heap H locs := hw
    refine W.eq (g2 := F0 m9 75 ls []) rfl ?_
    refine lv_aload_n Ex Eb dX8_remember_75 rfl (lv_at hl 0 rfl) ?_
    refine lv_dup Ex Eb dX8_remember_76 rfl ?_
    refine lo_get E hK hw huRX8 3 hf59 rfl 0 rfl rfl (by decide) (v := .int (iI (M 3))) rfl dX8_remember_77 ?_
    refine lv_iconst (v := iI 1) Ex Eb dX8_remember_80 rfl ?_
    refine lo_iadd E dX8_remember_81 ?_
    refine lo_put E hK hw huRX8 tyX8 tyX8_ok nmX8 3 hf59 rfl 0 rfl rfl (by decide) rfl rfl rfl rfl (Nat.le_of_ble_eq_true rfl) (ws' := [oX8 (d 0) (M 0) (d 1) (d 2) (M 3 + 1) (d 3) (M 5) (d 4) (d 5) (d 6) (M 9) (d 7) (M 11) (M 12) (M 13) (M 14) (M 15) (M 16) (M 17) (M 18) (M 19) (M 20) (M 21) (M 22) (M 23) (M 24) (M 25) (M 26) (M 27) (M 28), arI X b 122 g, arA X (d 2) 8 (rq r q)] ++ ((rwW X r (uF C (q (M 3).toNat) g)))) rfl dX8_remember_82 (fun H locs hw => ?_)
    exact lo_vret E hRt hLk hK hAe hw dX8_remember_85 rfl ⟨rfl, by first | (exfalso; omega) | (unfold rmC; rw [rmQ_8 (show M 3 = 8 by omega), show min (M 3 + 1) 8 = M 3 - 1 + 1 by omega, show (min (M 3) 7).toNat = (M 3 - 1).toNat by omega]) | (unfold rmC; rw [rmQ_n (show M 3 ≠ 8 by omega), show min (M 3 + 1) 8 = M 3 + 1 by omega, show (min (M 3) 7).toNat = (M 3).toNat by omega])⟩
  · skip
    refine lv_aload_n Ex Eb dX8_remember_9 rfl (lv_at hl 0 rfl) ?_
    refine lo_get E hK hw huRX8 2 hf15 rfl 0 rfl rfl (by decide) (v := .ref (d 2)) rfl dX8_remember_10 ?_
    refine lv_iconst (v := iI 0) Ex Eb dX8_remember_13 rfl ?_
    refine lo_aldA E hK hw 2 rfl (by omega) dX8_remember_14 ?_
    refine W.eq (g2 := F0 m9 15 ls [.ref (r (q 0))]) rfl ?_
    refine lv_astore_n (lv' := [(2, .ref (r (q 0))), (0, .ref (d 0)), (1, .ref b)]) Ex Eb dX8_remember_15 rfl hl (by decide) rfl (fun ls hl => ?_)
    refine lv_iconst (v := iI 1) Ex Eb dX8_remember_16 rfl ?_
    refine lv_istore_n (lv' := [(3, .int (iI 1)), (2, .ref (r (q 0))), (0, .ref (d 0)), (1, .ref b)]) Ex Eb dX8_remember_17 rfl hl (by decide) rfl (fun ls hl => ?_)
    have lp18 : ∀ (n : Nat) (u : Nat → Nat) (ix : Int), (8 - ix).toNat < n → (1 ≤ ix ∧ ix ≤ 8) → (u = shQ q ix) → ∀ (H : Heap) (locs : List Loc) (ls : Array Slot), lo_Wd X ([oX8 (d 0) (M 0) (d 1) (d 2) (M 3) (d 3) (M 5) (d 4) (d 5) (d 6) (M 9) (d 7) (M 11) (M 12) (M 13) (M 14) (M 15) (M 16) (M 17) (M 18) (M 19) (M 20) (M 21) (M 22) (M 23) (M 24) (M 25) (M 26) (M 27) (M 28), arI X b 122 g, arA X (d 2) 8 (rq r u)] ++ ((rwW X r C))) A9 s9.heap H locs → lv_has ls 4 [(0, .ref (d 0)), (1, .ref b), (2, .ref (r (q 0))), (3, .int (iI ix))] → W p9 l e9 ({ frames := 1, cells := 0, slots := 0, locals := 22 } : Room) s9 m9 ([.ref (d 0), .ref b] : List Value).toArray bl9 me9 c9 H locs 0 0 (MQ bl9 (lo_Qc X ([oX8 (d 0) (M 0) (d 1) (d 2) (M 3) (d 3) (M 5) (d 4) (d 5) (d 6) (M 9) (d 7) (M 11) (M 12) (M 13) (M 14) (M 15) (M 16) (M 17) (M 18) (M 19) (M 20) (M 21) (M 22) (M 23) (M 24) (M 25) (M 26) (M 27) (M 28), arI X b 122 g, arA X (d 2) 8 (rq r q)] ++ ((rwW X r C))) s9.heap.size (fun v9 w9 => v9 = none ∧ w9 = [oX8 (d 0) (M 0) (d 1) (d 2) (min (M 3 + 1) 8) (d 3) (M 5) (d 4) (d 5) (d 6) (M 9) (d 7) (M 11) (M 12) (M 13) (M 14) (M 15) (M 16) (M 17) (M 18) (M 19) (M 20) (M 21) (M 22) (M 23) (M 24) (M 25) (M 26) (M 27) (M 28), arI X b 122 g, arA X (d 2) 8 (rq r (rmQ q (M 3)))] ++ ((rwW X r (rmC C q (M 3) g))))) ([.ref (d 0), .ref b] : List Value).toArray s9 0 0 A9) (F0 m9 18 ls []) := by
      intro n
      induction n with
      | zero => intro u ix hn; exact absurd hn (Nat.not_lt_zero _)
      | succ n ih18 =>
        intro u ix hn18 iv18_0 iv18_1 H locs ls hw hl
        refine lv_iload_n Ex Eb dX8_remember_18 rfl (lv_at hl 3 rfl) ?_
        refine lv_bipush (v := iI 8) Ex Eb dX8_remember_19 rfl ?_
        refine lo_icmp_ge (tgt := 44) E dX8_remember_21 (by decide) (by omega) (by omega) (fun c2 => ?_) (fun c2 => ?_)
        · skip
          have hu8 : u = shQ q 8 := by rw [iv18_1, show ix = 8 by omega]
          have hr7 : rotQ q (M 3 - 1).toNat < 8 := rotQ_r hq _ (by omega)
          have hu7 : uF u 7 (q 0) = rotQ q := by rw [hu8]; rfl
          refine lv_aload_n Ex Eb dX8_remember_44 rfl (lv_at hl 0 rfl) ?_
          refine lo_get E hK hw huRX8 2 hf15 rfl 0 rfl rfl (by decide) (v := .ref (d 2)) rfl dX8_remember_45 ?_
          refine lv_bipush (v := iI 7) Ex Eb dX8_remember_48 rfl ?_
          refine lv_aload_n Ex Eb dX8_remember_50 rfl (lv_at hl 2 rfl) ?_
          refine lo_astA E hK hV.1 hw 2 (3 + (q 0)) rfl (rwW_atE (k := 3) rfl hq0) (by omega) (ws' := [oX8 (d 0) (M 0) (d 1) (d 2) (M 3) (d 3) (M 5) (d 4) (d 5) (d 6) (M 9) (d 7) (M 11) (M 12) (M 13) (M 14) (M 15) (M 16) (M 17) (M 18) (M 19) (M 20) (M 21) (M 22) (M 23) (M 24) (M 25) (M 26) (M 27) (M 28), arI X b 122 g, arA X (d 2) 8 (rq r (uF u 7 (q 0)))] ++ ((rwW X r C))) (by rw [rq_u]; rfl) dX8_remember_51 (fun H locs hw => ?_)
          rw [hu7] at hw
          have hw : lo_Wd X ([oX8 (d 0) (M 0) (d 1) (d 2) (M 3) (d 3) (M 5) (d 4) (d 5) (d 6) (M 9) (d 7) (M 11) (M 12) (M 13) (M 14) (M 15) (M 16) (M 17) (M 18) (M 19) (M 20) (M 21) (M 22) (M 23) (M 24) (M 25) (M 26) (M 27) (M 28), arI X b 122 g, arA X (d 2) 8 (rq r (rotQ q))] ++ ((rwW X r C))) A9 s9.heap H locs := hw
          refine lv_aload_n Ex Eb dX8_remember_52 rfl (lv_at hl 0 rfl) ?_
          refine lv_dup Ex Eb dX8_remember_53 rfl ?_
          refine lo_get E hK hw huRX8 3 hf59 rfl 0 rfl rfl (by decide) (v := .int (iI (M 3))) rfl dX8_remember_54 ?_
          refine lv_iconst (v := iI 1) Ex Eb dX8_remember_57 rfl ?_
          refine lo_isub E dX8_remember_58 ?_
          refine lo_put E hK hw huRX8 tyX8 tyX8_ok nmX8 3 hf59 rfl 0 rfl rfl (by decide) rfl rfl rfl rfl (Nat.le_of_ble_eq_true rfl) (ws' := [oX8 (d 0) (M 0) (d 1) (d 2) (M 3 - 1) (d 3) (M 5) (d 4) (d 5) (d 6) (M 9) (d 7) (M 11) (M 12) (M 13) (M 14) (M 15) (M 16) (M 17) (M 18) (M 19) (M 20) (M 21) (M 22) (M 23) (M 24) (M 25) (M 26) (M 27) (M 28), arI X b 122 g, arA X (d 2) 8 (rq r (rotQ q))] ++ ((rwW X r C))) rfl dX8_remember_59 (fun H locs hw => ?_)
          have hqm : M 3 = 8 ∨ q (M 3).toNat < 8 := by by_cases h : M 3 = 8; exact Or.inl h; exact Or.inr (hq _ (by omega))
          refine lv_aload_n Ex Eb dX8_remember_62 rfl (lv_at hl 1 rfl) ?_
          refine lv_aload_n Ex Eb dX8_remember_63 rfl (lv_at hl 0 rfl) ?_
          refine lo_get E hK hw huRX8 2 hf15 rfl 0 rfl rfl (by decide) (v := .ref (d 2)) rfl dX8_remember_64 ?_
          refine lv_aload_n Ex Eb dX8_remember_67 rfl (lv_at hl 0 rfl) ?_
          refine lo_get E hK hw huRX8 3 hf59 rfl 0 rfl rfl (by decide) (v := .int (iI (M 3 - 1))) rfl dX8_remember_68 ?_
          refine lo_aldA E hK hw 2 rfl (by omega) dX8_remember_71 ?_
          refine W.eq (g2 := F0 m9 72 ls [.ref (r (rotQ q (M 3 - 1).toNat)), .ref b]) rfl ?_
          refine lo_callS (rest := []) E hK hw (kX8_copy l X b (r (rotQ q (M 3 - 1).toNat)) g (C (rotQ q (M 3 - 1).toNat)) ) (cwS 2 E.2.2.2.2 gX8_remember_X8_copy rfl rfl rfl (by decide +kernel) ⟨Nat.le_of_ble_eq_true rfl, Nat.le_of_ble_eq_true rfl⟩) [1, 3 + (rotQ q (M 3 - 1).toNat)] (lo_ps_cons rfl (lo_ps_cons (rwW_atE (k := 3) rfl (by first | exact hr7 | omega)) lo_ps_nil)) (nd_2 (by omega)) hl.1 rfl rfl (Nat.le_of_ble_eq_true rfl) dX8_remember_72 ⟨Nat.le_of_ble_eq_true rfl, Nat.le_of_ble_eq_true rfl⟩ (fun v w1 H locs hq hw => ?_)
          obtain ⟨rfl, rfl⟩ := hq
          have hw := lo_cast (rwW_cp (j := 1) (k := 3) rfl rfl (by first | exact hr7 | omega)) hw
          have hw : lo_Wd X ([oX8 (d 0) (M 0) (d 1) (d 2) (M 3 - 1) (d 3) (M 5) (d 4) (d 5) (d 6) (M 9) (d 7) (M 11) (M 12) (M 13) (M 14) (M 15) (M 16) (M 17) (M 18) (M 19) (M 20) (M 21) (M 22) (M 23) (M 24) (M 25) (M 26) (M 27) (M 28), arI X b 122 g, arA X (d 2) 8 (rq r (rotQ q))] ++ ((rwW X r (uF C (rotQ q (M 3 - 1).toNat) g)))) A9 s9.heap H locs := hw
          refine W.eq (g2 := F0 m9 75 ls []) rfl ?_
          refine lv_aload_n Ex Eb dX8_remember_75 rfl (lv_at hl 0 rfl) ?_
          refine lv_dup Ex Eb dX8_remember_76 rfl ?_
          refine lo_get E hK hw huRX8 3 hf59 rfl 0 rfl rfl (by decide) (v := .int (iI (M 3 - 1))) rfl dX8_remember_77 ?_
          refine lv_iconst (v := iI 1) Ex Eb dX8_remember_80 rfl ?_
          refine lo_iadd E dX8_remember_81 ?_
          refine lo_put E hK hw huRX8 tyX8 tyX8_ok nmX8 3 hf59 rfl 0 rfl rfl (by decide) rfl rfl rfl rfl (Nat.le_of_ble_eq_true rfl) (ws' := [oX8 (d 0) (M 0) (d 1) (d 2) ((M 3 - 1) + 1) (d 3) (M 5) (d 4) (d 5) (d 6) (M 9) (d 7) (M 11) (M 12) (M 13) (M 14) (M 15) (M 16) (M 17) (M 18) (M 19) (M 20) (M 21) (M 22) (M 23) (M 24) (M 25) (M 26) (M 27) (M 28), arI X b 122 g, arA X (d 2) 8 (rq r (rotQ q))] ++ ((rwW X r (uF C (rotQ q (M 3 - 1).toNat) g)))) rfl dX8_remember_82 (fun H locs hw => ?_)
          exact lo_vret E hRt hLk hK hAe hw dX8_remember_85 rfl ⟨rfl, by first | (exfalso; omega) | (unfold rmC; rw [rmQ_8 (show M 3 = 8 by omega), show min (M 3 + 1) 8 = M 3 - 1 + 1 by omega, show (min (M 3) 7).toNat = (M 3 - 1).toNat by omega]) | (unfold rmC; rw [rmQ_n (show M 3 ≠ 8 by omega), show min (M 3 + 1) 8 = M 3 + 1 by omega, show (min (M 3) 7).toNat = (M 3).toNat by omega])⟩
        · skip
          have hux : u ix.toNat < 8 := by rw [iv18_1]; exact shQ_r (by omega) hq _ (by omega)
          refine lv_aload_n Ex Eb dX8_remember_24 rfl (lv_at hl 0 rfl) ?_
          refine lo_get E hK hw huRX8 2 hf15 rfl 0 rfl rfl (by decide) (v := .ref (d 2)) rfl dX8_remember_25 ?_
          refine lv_iload_n Ex Eb dX8_remember_28 rfl (lv_at hl 3 rfl) ?_
          refine lv_iconst (v := iI 1) Ex Eb dX8_remember_29 rfl ?_
          refine lo_isub E dX8_remember_30 ?_
          refine lv_aload_n Ex Eb dX8_remember_31 rfl (lv_at hl 0 rfl) ?_
          refine lo_get E hK hw huRX8 2 hf15 rfl 0 rfl rfl (by decide) (v := .ref (d 2)) rfl dX8_remember_32 ?_
          refine lv_iload_n Ex Eb dX8_remember_35 rfl (lv_at hl 3 rfl) ?_
          refine lo_aldA E hK hw 2 rfl (by omega) dX8_remember_36 ?_
          refine W.eq (g2 := F0 m9 37 ls [.ref (r (u ix.toNat)), .int (iI (ix - 1)), .ref (d 2)]) rfl ?_
          refine lo_astA E hK hV.1 hw 2 (3 + (u ix.toNat)) rfl (rwW_atE (k := 3) rfl hux) (by omega) (ws' := [oX8 (d 0) (M 0) (d 1) (d 2) (M 3) (d 3) (M 5) (d 4) (d 5) (d 6) (M 9) (d 7) (M 11) (M 12) (M 13) (M 14) (M 15) (M 16) (M 17) (M 18) (M 19) (M 20) (M 21) (M 22) (M 23) (M 24) (M 25) (M 26) (M 27) (M 28), arI X b 122 g, arA X (d 2) 8 (rq r (uF u (ix - 1).toNat (u ix.toNat)))] ++ ((rwW X r C))) (by rw [rq_u]; rfl) dX8_remember_37 (fun H locs hw => ?_)
          refine lo_iinc (lv' := [(3, .int (iI (ix + 1))), (0, .ref (d 0)), (1, .ref b), (2, .ref (r (q 0)))]) E dX8_remember_38 hl (k := 3) rfl (by decide) rfl (fun ls hl => ?_)
          refine lv_goto (tgt := 18) Ex Eb dX8_remember_41 (by decide) ?_
          exact ih18 (uF u (ix - 1).toNat (u ix.toNat)) (ix + 1) (by omega) (by omega) (by rw [iv18_1, shQ_s iv18_0.1]) _ _ _ hw (lv_sub hl [1, 2, 3, 0] rfl)
    exact lp18 _ q 1 (Nat.lt_succ_self _) (by omega) ((shQ_1 q).symm) _ _ _ hw (lv_sub hl [2, 3, 1, 0] rfl)
set_option maxHeartbeats 4000000 in
set_option maxRecDepth 100000 in
theorem kX8_undo (l : Launch) (X : KX) (kS : Nat → Nat) (d r q : Nat → Nat) (M : Nat → Int) (C : Nat → Nat → Int) (w : Nat → Int) (hpc : 0 ≤ M 3 ∧ M 3 ≤ 8) (hq : ∀ j, j < 8 → q j < 8) : CE l X kS yX8_undo wsX8_undo ({ frames := 1, cells := 0, slots := 0, locals := 22 }) [.ref (d 0)] ([oX8 (d 0) (M 0) (d 1) (d 2) (M 3) (d 3) (M 5) (d 4) (d 5) (d 6) (M 9) (d 7) (M 11) (M 12) (M 13) (M 14) (M 15) (M 16) (M 17) (M 18) (M 19) (M 20) (M 21) (M 22) (M 23) (M 24) (M 25) (M 26) (M 27) (M 28), arI X (d 1) 122 w, arA X (d 2) 8 (rq r q)] ++ ((rwW X r C))) (fun v9 w9 => ∃ u : Nat → Int, ∃ m : Int, ∃ z : Int, ((M 3 = 0 ∧ z = -1 ∧ m = 0 ∧ u = w) ∨ (1 ≤ M 3 ∧ z = M 3 - 1 ∧ m = M 3 - 1 ∧ u = C (q (M 3 - 1).toNat))) ∧ v9 = some (.int (iI z)) ∧ w9 = [oX8 (d 0) 0 (d 1) (d 2) m (d 3) (M 5) (d 4) (d 5) (d 6) (M 9) (d 7) (M 11) (M 12) (M 13) (M 14) (M 15) (M 16) (M 17) (M 18) (M 19) (M 20) (M 21) (M 22) (M 23) (M 24) (M 25) (M 26) (M 27) (M 28), arI X (d 1) 122 u, arA X (d 2) 8 (rq r q)] ++ ((rwW X r C))) 0 0 := by
  refine lo_enterE (cc := cX8_undo) (maxL := 1) (ret := (some .int)) (lv := [(0, .ref (d 0))]) (by decide) rfl rfl (Nat.le_of_ble_eq_true rfl) ?_
  intro p9 e9 s9 m9 bl9 me9 c9 A9 ls hAe E hRt hLk hK hl hw hV
  have Ex := E.1
  have Eb := E.2.1
  have huRX8 : ∀ w ∈ u_ws RX8 TX8 29, w ∈ wsX8_undo := by decide +kernel
  have hf56 : (Cond.fieldLink RX8 56 "LoanScheduleModel" "thrown" "I").before _ s9 = true := E.2.2.2.2 _ (List.mem_of_getElem? (i := 1) rfl)
  have hf59 : (Cond.fieldLink RX8 59 "LoanScheduleModel" "pastCount" "I").before _ s9 = true := E.2.2.2.2 _ (List.mem_of_getElem? (i := 2) rfl)
  have hf15 : (Cond.fieldLink RX8 15 "LoanScheduleModel" "past" "[[I").before _ s9 = true := E.2.2.2.2 _ (List.mem_of_getElem? (i := 3) rfl)
  have hf9 : (Cond.fieldLink RX8 9 "LoanScheduleModel" "w" "[I").before _ s9 = true := E.2.2.2.2 _ (List.mem_of_getElem? (i := 4) rfl)
  refine lv_aload_n Ex Eb dX8_undo_0 rfl (lv_at hl 0 rfl) ?_
  refine lv_iconst (v := iI 0) Ex Eb dX8_undo_1 rfl ?_
  refine lo_put E hK hw huRX8 tyX8 tyX8_ok nmX8 0 hf56 rfl 0 rfl rfl (by decide) rfl rfl rfl rfl (Nat.le_of_ble_eq_true rfl) (ws' := [oX8 (d 0) 0 (d 1) (d 2) (M 3) (d 3) (M 5) (d 4) (d 5) (d 6) (M 9) (d 7) (M 11) (M 12) (M 13) (M 14) (M 15) (M 16) (M 17) (M 18) (M 19) (M 20) (M 21) (M 22) (M 23) (M 24) (M 25) (M 26) (M 27) (M 28), arI X (d 1) 122 w, arA X (d 2) 8 (rq r q)] ++ ((rwW X r C))) rfl dX8_undo_2 (fun H locs hw => ?_)
  refine lv_aload_n Ex Eb dX8_undo_5 rfl (lv_at hl 0 rfl) ?_
  refine lo_get E hK hw huRX8 3 hf59 rfl 0 rfl rfl (by decide) (v := .int (iI (M 3))) rfl dX8_undo_6 ?_
  refine lo_if_ne (tgt := 14) E dX8_undo_9 (by decide) (by omega) (fun c1 => ?_) (fun c1 => ?_)
  · skip
    refine lv_aload_n Ex Eb dX8_undo_14 rfl (lv_at hl 0 rfl) ?_
    refine lv_dup Ex Eb dX8_undo_15 rfl ?_
    refine lo_get E hK hw huRX8 3 hf59 rfl 0 rfl rfl (by decide) (v := .int (iI (M 3))) rfl dX8_undo_16 ?_
    refine lv_iconst (v := iI 1) Ex Eb dX8_undo_19 rfl ?_
    refine lo_isub E dX8_undo_20 ?_
    refine lo_put E hK hw huRX8 tyX8 tyX8_ok nmX8 3 hf59 rfl 0 rfl rfl (by decide) rfl rfl rfl rfl (Nat.le_of_ble_eq_true rfl) (ws' := [oX8 (d 0) 0 (d 1) (d 2) (M 3 - 1) (d 3) (M 5) (d 4) (d 5) (d 6) (M 9) (d 7) (M 11) (M 12) (M 13) (M 14) (M 15) (M 16) (M 17) (M 18) (M 19) (M 20) (M 21) (M 22) (M 23) (M 24) (M 25) (M 26) (M 27) (M 28), arI X (d 1) 122 w, arA X (d 2) 8 (rq r q)] ++ ((rwW X r C))) rfl dX8_undo_21 (fun H locs hw => ?_)
    refine lv_aload_n Ex Eb dX8_undo_24 rfl (lv_at hl 0 rfl) ?_
    refine lo_get E hK hw huRX8 2 hf15 rfl 0 rfl rfl (by decide) (v := .ref (d 2)) rfl dX8_undo_25 ?_
    refine lv_aload_n Ex Eb dX8_undo_28 rfl (lv_at hl 0 rfl) ?_
    refine lo_get E hK hw huRX8 3 hf59 rfl 0 rfl rfl (by decide) (v := .int (iI (M 3 - 1))) rfl dX8_undo_29 ?_
    refine lo_aldA E hK hw 2 rfl (by omega) dX8_undo_32 ?_
    refine W.eq (g2 := F0 m9 33 ls [.ref (r (q (M 3 - 1).toNat))]) rfl ?_
    have hqm := hq (M 3 - 1).toNat (by omega)
    refine lv_aload_n Ex Eb dX8_undo_33 rfl (lv_at hl 0 rfl) ?_
    refine lo_get E hK hw huRX8 1 hf9 rfl 0 rfl rfl (by decide) (v := .ref (d 1)) rfl dX8_undo_34 ?_
    refine lo_callS (rest := []) E hK hw (kX8_copy l X (r (q (M 3 - 1).toNat)) (d 1) (C (q (M 3 - 1).toNat)) w ) (cwS 2 E.2.2.2.2 gX8_undo_X8_copy rfl rfl rfl (by decide +kernel) ⟨Nat.le_of_ble_eq_true rfl, Nat.le_of_ble_eq_true rfl⟩) [3 + (q (M 3 - 1).toNat), 1] (lo_ps_cons (rwW_atE (k := 3) rfl (by omega)) (lo_ps_cons rfl lo_ps_nil)) (nd_2 (by omega)) hl.1 rfl rfl (Nat.le_of_ble_eq_true rfl) dX8_undo_37 ⟨Nat.le_of_ble_eq_true rfl, Nat.le_of_ble_eq_true rfl⟩ (fun v w1 H locs hq hw => ?_)
    obtain ⟨rfl, rfl⟩ := hq
    have hw := lo_cast (rwW_cp2 (j := 1) (k := 3) rfl rfl (by omega) (by omega)) hw
    have hw : lo_Wd X ([oX8 (d 0) 0 (d 1) (d 2) (M 3 - 1) (d 3) (M 5) (d 4) (d 5) (d 6) (M 9) (d 7) (M 11) (M 12) (M 13) (M 14) (M 15) (M 16) (M 17) (M 18) (M 19) (M 20) (M 21) (M 22) (M 23) (M 24) (M 25) (M 26) (M 27) (M 28), arI X (d 1) 122 (C (q (M 3 - 1).toNat)), arA X (d 2) 8 (rq r q)] ++ ((rwW X r C))) A9 s9.heap H locs := hw
    refine W.eq (g2 := F0 m9 40 ls []) rfl ?_
    refine lv_aload_n Ex Eb dX8_undo_40 rfl (lv_at hl 0 rfl) ?_
    refine lo_get E hK hw huRX8 3 hf59 rfl 0 rfl rfl (by decide) (v := .int (iI (M 3 - 1))) rfl dX8_undo_41 ?_
    exact lo_iret E hRt hLk hK hAe hw dX8_undo_44 rfl ⟨C (q (M 3 - 1).toNat), M 3 - 1, M 3 - 1, (by first | exact Or.inl ⟨by omega, by omega, by omega, rfl⟩ | exact Or.inr ⟨by omega, by omega, by omega, rfl⟩), rfl, rfl⟩
  · skip
    refine lv_iconst (v := iI (-1)) Ex Eb dX8_undo_12 rfl ?_
    exact lo_iret E hRt hLk hK hAe hw dX8_undo_13 rfl ⟨w, M 3, -1, (by first | exact Or.inl ⟨by omega, by omega, by omega, rfl⟩ | exact Or.inr ⟨by omega, by omega, by omega, rfl⟩), rfl, rfl⟩
set_option maxHeartbeats 4000000 in
set_option maxRecDepth 100000 in
theorem kX8_restoreSnapshot (l : Launch) (X : KX) (d : Nat → Nat) (M w g : Nat → Int) (hs : M 5 = 0 ∨ M 5 = 1) : CM l X yX8_restoreSnapshot wsX8_restoreSnapshot ({ frames := 1, cells := 0, slots := 0, locals := 22 }) [.ref (d 0)] ([oX8 (d 0) (M 0) (d 1) (d 2) (M 3) (d 3) (M 5) (d 4) (d 5) (d 6) (M 9) (d 7) (M 11) (M 12) (M 13) (M 14) (M 15) (M 16) (M 17) (M 18) (M 19) (M 20) (M 21) (M 22) (M 23) (M 24) (M 25) (M 26) (M 27) (M 28), arI X (d 1) 122 w, arI X (d 3) 122 g]) (fun v9 w9 => ∃ u : Nat → Int, ∃ t : Int, ∃ m : Int, ∃ z : Int, ((M 5 = 1 ∧ t = 0 ∧ m = 0 ∧ u = g ∧ z = g 0) ∨ (M 5 = 0 ∧ t = 1 ∧ m = M 3 ∧ u = w ∧ z = 0)) ∧ v9 = some (.int (iI z)) ∧ w9 = [oX8 (d 0) t (d 1) (d 2) m (d 3) (M 5) (d 4) (d 5) (d 6) (M 9) (d 7) (M 11) (M 12) (M 13) (M 14) (M 15) (M 16) (M 17) (M 18) (M 19) (M 20) (M 21) (M 22) (M 23) (M 24) (M 25) (M 26) (M 27) (M 28), arI X (d 1) 122 u, arI X (d 3) 122 g]) 0 0 := by
  refine lo_enter (cc := cX8_restoreSnapshot) (maxL := 1) (ret := (some .int)) (lv := [(0, .ref (d 0))]) (by decide) rfl rfl (Nat.le_of_ble_eq_true rfl) ?_
  intro p9 e9 s9 m9 bl9 me9 c9 A9 ls hAe E hRt hLk hK hl hw
  have Ex := E.1
  have Eb := E.2.1
  have huRX8 : ∀ w ∈ u_ws RX8 TX8 29, w ∈ wsX8_restoreSnapshot := by decide +kernel
  have hf56 : (Cond.fieldLink RX8 56 "LoanScheduleModel" "thrown" "I").before _ s9 = true := E.2.2.2.2 _ (List.mem_of_getElem? (i := 1) rfl)
  have hf192 : (Cond.fieldLink RX8 192 "LoanScheduleModel" "hasSnapshot" "Z").before _ s9 = true := E.2.2.2.2 _ (List.mem_of_getElem? (i := 2) rfl)
  have hf18 : (Cond.fieldLink RX8 18 "LoanScheduleModel" "snapshot" "[I").before _ s9 = true := E.2.2.2.2 _ (List.mem_of_getElem? (i := 3) rfl)
  have hf9 : (Cond.fieldLink RX8 9 "LoanScheduleModel" "w" "[I").before _ s9 = true := E.2.2.2.2 _ (List.mem_of_getElem? (i := 4) rfl)
  have hf59 : (Cond.fieldLink RX8 59 "LoanScheduleModel" "pastCount" "I").before _ s9 = true := E.2.2.2.2 _ (List.mem_of_getElem? (i := 5) rfl)
  refine lv_aload_n Ex Eb dX8_restoreSnapshot_0 rfl (lv_at hl 0 rfl) ?_
  refine lv_iconst (v := iI 0) Ex Eb dX8_restoreSnapshot_1 rfl ?_
  refine lo_put E hK hw huRX8 tyX8 tyX8_ok nmX8 0 hf56 rfl 0 rfl rfl (by decide) rfl rfl rfl rfl (Nat.le_of_ble_eq_true rfl) (ws' := [oX8 (d 0) 0 (d 1) (d 2) (M 3) (d 3) (M 5) (d 4) (d 5) (d 6) (M 9) (d 7) (M 11) (M 12) (M 13) (M 14) (M 15) (M 16) (M 17) (M 18) (M 19) (M 20) (M 21) (M 22) (M 23) (M 24) (M 25) (M 26) (M 27) (M 28), arI X (d 1) 122 w, arI X (d 3) 122 g]) rfl dX8_restoreSnapshot_2 (fun H locs hw => ?_)
  refine lv_aload_n Ex Eb dX8_restoreSnapshot_5 rfl (lv_at hl 0 rfl) ?_
  refine lv_aload_n Ex Eb dX8_restoreSnapshot_6 rfl (lv_at hl 0 rfl) ?_
  refine lo_get E hK hw huRX8 5 hf192 rfl 0 rfl rfl (by decide) (v := .int (iI (M 5))) rfl dX8_restoreSnapshot_7 ?_
  refine lo_if_ne (tgt := 17) E dX8_restoreSnapshot_10 (by decide) (by omega) (fun c1 => ?_) (fun c1 => ?_)
  · skip
    refine lv_iconst (v := iI 0) Ex Eb dX8_restoreSnapshot_17 rfl ?_
    refine lv_iconst (v := iI 1) Ex Eb dX8_restoreSnapshot_18 rfl ?_
    refine lo_callV (q0 := 0) (rest := []) E hK hw (kX8_raise l X d (uI M 0 0) 0 1 (by omega)) (cwV 2 E.2.2.2.2 gX8_restoreSnapshot_X8_raise rfl rfl rfl (by decide +kernel) ⟨Nat.le_of_ble_eq_true rfl, Nat.le_of_ble_eq_true rfl⟩) rfl rfl [0] rfl (by decide) hl.1 rfl rfl (Nat.le_of_ble_eq_true rfl) dX8_restoreSnapshot_19 ⟨Nat.le_of_ble_eq_true rfl, Nat.le_of_ble_eq_true rfl⟩ (fun v w1 H locs hq hw => ?_)
    obtain ⟨t2, q19_0, rfl, rfl⟩ := hq
    change (0 = 0 ∧ t2 = 0) ∨ (0 = 1 ∧ t2 = 1) at q19_0
    have hw : lo_Wd X ([oX8 (d 0) t2 (d 1) (d 2) (M 3) (d 3) (M 5) (d 4) (d 5) (d 6) (M 9) (d 7) (M 11) (M 12) (M 13) (M 14) (M 15) (M 16) (M 17) (M 18) (M 19) (M 20) (M 21) (M 22) (M 23) (M 24) (M 25) (M 26) (M 27) (M 28), arI X (d 1) 122 w, arI X (d 3) 122 g]) A9 s9.heap H locs := hw
    refine W.eq (g2 := F0 m9 22 ls [.int (iI 0)]) rfl ?_
    refine lo_if_eq (tgt := 27) E dX8_restoreSnapshot_22 (by decide) (by omega) (fun c3 => ?_) (fun c3 => ?_)
    · skip
      refine lv_aload_n Ex Eb dX8_restoreSnapshot_27 rfl (lv_at hl 0 rfl) ?_
      refine lo_get E hK hw huRX8 4 hf18 rfl 0 rfl rfl (by decide) (v := .ref (d 3)) rfl dX8_restoreSnapshot_28 ?_
      refine lv_aload_n Ex Eb dX8_restoreSnapshot_31 rfl (lv_at hl 0 rfl) ?_
      refine lo_get E hK hw huRX8 1 hf9 rfl 0 rfl rfl (by decide) (v := .ref (d 1)) rfl dX8_restoreSnapshot_32 ?_
      refine lo_callS (rest := []) E hK hw (kX8_copy l X (d 3) (d 1) g w ) (cwS 2 E.2.2.2.2 gX8_restoreSnapshot_X8_copy rfl rfl rfl (by decide +kernel) ⟨Nat.le_of_ble_eq_true rfl, Nat.le_of_ble_eq_true rfl⟩) [2, 1] rfl (by decide) hl.1 rfl rfl (Nat.le_of_ble_eq_true rfl) dX8_restoreSnapshot_35 ⟨Nat.le_of_ble_eq_true rfl, Nat.le_of_ble_eq_true rfl⟩ (fun v w1 H locs hq hw => ?_)
      obtain ⟨rfl, rfl⟩ := hq
      have hw : lo_Wd X ([oX8 (d 0) t2 (d 1) (d 2) (M 3) (d 3) (M 5) (d 4) (d 5) (d 6) (M 9) (d 7) (M 11) (M 12) (M 13) (M 14) (M 15) (M 16) (M 17) (M 18) (M 19) (M 20) (M 21) (M 22) (M 23) (M 24) (M 25) (M 26) (M 27) (M 28), arI X (d 1) 122 g, arI X (d 3) 122 g]) A9 s9.heap H locs := hw
      refine W.eq (g2 := F0 m9 38 ls []) rfl ?_
      refine lv_aload_n Ex Eb dX8_restoreSnapshot_38 rfl (lv_at hl 0 rfl) ?_
      refine lv_iconst (v := iI 0) Ex Eb dX8_restoreSnapshot_39 rfl ?_
      refine lo_put E hK hw huRX8 tyX8 tyX8_ok nmX8 3 hf59 rfl 0 rfl rfl (by decide) rfl rfl rfl rfl (Nat.le_of_ble_eq_true rfl) (ws' := [oX8 (d 0) t2 (d 1) (d 2) 0 (d 3) (M 5) (d 4) (d 5) (d 6) (M 9) (d 7) (M 11) (M 12) (M 13) (M 14) (M 15) (M 16) (M 17) (M 18) (M 19) (M 20) (M 21) (M 22) (M 23) (M 24) (M 25) (M 26) (M 27) (M 28), arI X (d 1) 122 g, arI X (d 3) 122 g]) rfl dX8_restoreSnapshot_40 (fun H locs hw => ?_)
      refine lv_aload_n Ex Eb dX8_restoreSnapshot_43 rfl (lv_at hl 0 rfl) ?_
      refine lo_get E hK hw huRX8 1 hf9 rfl 0 rfl rfl (by decide) (v := .ref (d 1)) rfl dX8_restoreSnapshot_44 ?_
      refine lv_iconst (v := iI 0) Ex Eb dX8_restoreSnapshot_47 rfl ?_
      refine lo_iald E hK hw 1 rfl (by omega) dX8_restoreSnapshot_48 ?_
      refine W.eq (g2 := F0 m9 49 ls [.int (iI (g 0))]) rfl ?_
      exact lo_iret E hRt hLk hK hAe hw dX8_restoreSnapshot_49 rfl ⟨g, t2, 0, g 0, (by first | (exfalso; omega) | exact Or.inl ⟨by omega, by omega, by omega, rfl, by omega⟩ | exact Or.inr ⟨by omega, by omega, by omega, rfl, by omega⟩), rfl, rfl⟩
    · skip
      refine lv_iconst (v := iI 0) Ex Eb dX8_restoreSnapshot_25 rfl ?_
      exact lo_iret E hRt hLk hK hAe hw dX8_restoreSnapshot_26 rfl ⟨w, t2, M 3, 0, (by first | (exfalso; omega) | exact Or.inl ⟨by omega, by omega, by omega, rfl, by omega⟩ | exact Or.inr ⟨by omega, by omega, by omega, rfl, by omega⟩), rfl, rfl⟩
  · skip
    refine lv_iconst (v := iI 1) Ex Eb dX8_restoreSnapshot_13 rfl ?_
    refine lv_goto (tgt := 18) Ex Eb dX8_restoreSnapshot_14 (by decide) ?_
    refine lv_iconst (v := iI 1) Ex Eb dX8_restoreSnapshot_18 rfl ?_
    refine lo_callV (q0 := 0) (rest := []) E hK hw (kX8_raise l X d (uI M 0 0) 1 1 (by omega)) (cwV 2 E.2.2.2.2 gX8_restoreSnapshot_X8_raise rfl rfl rfl (by decide +kernel) ⟨Nat.le_of_ble_eq_true rfl, Nat.le_of_ble_eq_true rfl⟩) rfl rfl [0] rfl (by decide) hl.1 rfl rfl (Nat.le_of_ble_eq_true rfl) dX8_restoreSnapshot_19 ⟨Nat.le_of_ble_eq_true rfl, Nat.le_of_ble_eq_true rfl⟩ (fun v w1 H locs hq hw => ?_)
    obtain ⟨t4, q19_0, rfl, rfl⟩ := hq
    change (1 = 0 ∧ t4 = 0) ∨ (1 = 1 ∧ t4 = 1) at q19_0
    have hw : lo_Wd X ([oX8 (d 0) t4 (d 1) (d 2) (M 3) (d 3) (M 5) (d 4) (d 5) (d 6) (M 9) (d 7) (M 11) (M 12) (M 13) (M 14) (M 15) (M 16) (M 17) (M 18) (M 19) (M 20) (M 21) (M 22) (M 23) (M 24) (M 25) (M 26) (M 27) (M 28), arI X (d 1) 122 w, arI X (d 3) 122 g]) A9 s9.heap H locs := hw
    refine W.eq (g2 := F0 m9 22 ls [.int (iI 1)]) rfl ?_
    refine lo_if_eq (tgt := 27) E dX8_restoreSnapshot_22 (by decide) (by omega) (fun c5 => ?_) (fun c5 => ?_)
    · skip
      refine lv_aload_n Ex Eb dX8_restoreSnapshot_27 rfl (lv_at hl 0 rfl) ?_
      refine lo_get E hK hw huRX8 4 hf18 rfl 0 rfl rfl (by decide) (v := .ref (d 3)) rfl dX8_restoreSnapshot_28 ?_
      refine lv_aload_n Ex Eb dX8_restoreSnapshot_31 rfl (lv_at hl 0 rfl) ?_
      refine lo_get E hK hw huRX8 1 hf9 rfl 0 rfl rfl (by decide) (v := .ref (d 1)) rfl dX8_restoreSnapshot_32 ?_
      refine lo_callS (rest := []) E hK hw (kX8_copy l X (d 3) (d 1) g w ) (cwS 2 E.2.2.2.2 gX8_restoreSnapshot_X8_copy rfl rfl rfl (by decide +kernel) ⟨Nat.le_of_ble_eq_true rfl, Nat.le_of_ble_eq_true rfl⟩) [2, 1] rfl (by decide) hl.1 rfl rfl (Nat.le_of_ble_eq_true rfl) dX8_restoreSnapshot_35 ⟨Nat.le_of_ble_eq_true rfl, Nat.le_of_ble_eq_true rfl⟩ (fun v w1 H locs hq hw => ?_)
      obtain ⟨rfl, rfl⟩ := hq
      have hw : lo_Wd X ([oX8 (d 0) t4 (d 1) (d 2) (M 3) (d 3) (M 5) (d 4) (d 5) (d 6) (M 9) (d 7) (M 11) (M 12) (M 13) (M 14) (M 15) (M 16) (M 17) (M 18) (M 19) (M 20) (M 21) (M 22) (M 23) (M 24) (M 25) (M 26) (M 27) (M 28), arI X (d 1) 122 g, arI X (d 3) 122 g]) A9 s9.heap H locs := hw
      refine W.eq (g2 := F0 m9 38 ls []) rfl ?_
      refine lv_aload_n Ex Eb dX8_restoreSnapshot_38 rfl (lv_at hl 0 rfl) ?_
      refine lv_iconst (v := iI 0) Ex Eb dX8_restoreSnapshot_39 rfl ?_
      refine lo_put E hK hw huRX8 tyX8 tyX8_ok nmX8 3 hf59 rfl 0 rfl rfl (by decide) rfl rfl rfl rfl (Nat.le_of_ble_eq_true rfl) (ws' := [oX8 (d 0) t4 (d 1) (d 2) 0 (d 3) (M 5) (d 4) (d 5) (d 6) (M 9) (d 7) (M 11) (M 12) (M 13) (M 14) (M 15) (M 16) (M 17) (M 18) (M 19) (M 20) (M 21) (M 22) (M 23) (M 24) (M 25) (M 26) (M 27) (M 28), arI X (d 1) 122 g, arI X (d 3) 122 g]) rfl dX8_restoreSnapshot_40 (fun H locs hw => ?_)
      refine lv_aload_n Ex Eb dX8_restoreSnapshot_43 rfl (lv_at hl 0 rfl) ?_
      refine lo_get E hK hw huRX8 1 hf9 rfl 0 rfl rfl (by decide) (v := .ref (d 1)) rfl dX8_restoreSnapshot_44 ?_
      refine lv_iconst (v := iI 0) Ex Eb dX8_restoreSnapshot_47 rfl ?_
      refine lo_iald E hK hw 1 rfl (by omega) dX8_restoreSnapshot_48 ?_
      refine W.eq (g2 := F0 m9 49 ls [.int (iI (g 0))]) rfl ?_
      exact lo_iret E hRt hLk hK hAe hw dX8_restoreSnapshot_49 rfl ⟨g, t4, 0, g 0, (by first | (exfalso; omega) | exact Or.inl ⟨by omega, by omega, by omega, rfl, by omega⟩ | exact Or.inr ⟨by omega, by omega, by omega, rfl, by omega⟩), rfl, rfl⟩
    · skip
      refine lv_iconst (v := iI 0) Ex Eb dX8_restoreSnapshot_25 rfl ?_
      exact lo_iret E hRt hLk hK hAe hw dX8_restoreSnapshot_26 rfl ⟨w, t4, M 3, 0, (by first | (exfalso; omega) | exact Or.inl ⟨by omega, by omega, by omega, rfl, by omega⟩ | exact Or.inr ⟨by omega, by omega, by omega, rfl, by omega⟩), rfl, rfl⟩
