set_option maxHeartbeats 4000000 in
set_option maxRecDepth 100000 in
theorem kL_isSound (l : Launch) (X : KX) (kS : Nat → Nat) (D : AD9) (Z : CZ) (A : Nat → Int) (hPI : PI (zP Z)) (hPC : PC 1000 (zP Z)) : CE l X kS yL_isSound wsL_isSound ({ frames := 9, cells := 0, slots := 0, locals := 164 }) [.ref (D.1 0)] ((wC X D (zUA Z A))) (fun v9 w9 => ∃ A9 : Nat → Int, (True) ∧ v9 = some (.int (iI 1)) ∧ w9 = (wC X D (zUA Z A9))) 0 0 := by
  refine lo_enterE (cc := cL_isSound) (maxL := 11) (ret := (some .boolean)) (lv := [(0, .ref (D.1 0))]) (by decide) rfl rfl (Nat.le_of_ble_eq_true rfl) ?_
  intro p9 e9 s9 m9 bl9 me9 c9 A9 ls hAe E hRt hLk hK hl hw hV
  have Ex := E.1
  have Eb := E.2.1
  have hc209 : (Cond.constant RL 209 (119999)).before _ s9 = true := E.2.2.2.2 _ (List.mem_of_getElem? (i := 1) rfl)
  have hc228 : (Cond.constantLong RL 228 (120000)).before _ s9 = true := E.2.2.2.2 _ (List.mem_of_getElem? (i := 2) rfl)
  obtain ⟨hn0, hn1⟩ := hPI.1
  refine lv_aload_n Ex Eb dL_isSound_0 rfl (lv_at hl 0 rfl) ?_
  refine lw_c7 (rest := []) E hK hV hw (qX7_violations l X kS D (zUA Z A)  hPI) (cwV 0 E.2.2.2.2 gL_isSound_X7_violations rfl rfl rfl (by decide +kernel) ⟨Nat.le_of_ble_eq_true rfl, Nat.le_of_ble_eq_true rfl⟩) hl.1 rfl rfl (Nat.le_of_ble_eq_true rfl) dL_isSound_1 ⟨Nat.le_of_ble_eq_true rfl, Nat.le_of_ble_eq_true rfl⟩ (fun t1 H locs _ hw => ?_)
  have hw : lo_Wd X ((wC X D (zUA Z t1))) A9 s9.heap H locs := hw
  refine W.eq (g2 := F0 m9 4 ls [.int (iI (plBad (zP Z) (Pn (zP Z)).toNat))]) rfl ?_
  have hB := plBad_0 hPI (Pn (zP Z)).toNat (by have := hPI.1; omega)
  refine lo_if_eq (tgt := 9) E dL_isSound_4 (by decide) (by omega) (fun c2 => ?_) (fun c2 => ?_)
  · skip
    refine lv_iconst (v := iI 0) Ex Eb dL_isSound_9 rfl ?_
    refine lv_istore_n (lv' := [(1, .int (iI 0)), (0, .ref (D.1 0))]) Ex Eb dL_isSound_10 rfl hl (by decide) rfl (fun ls hl => ?_)
    refine lv_iconst (v := iI 0) Ex Eb dL_isSound_11 rfl ?_
    refine lv_istore_n (lv' := [(2, .int (iI 0)), (1, .int (iI 0)), (0, .ref (D.1 0))]) Ex Eb dL_isSound_12 rfl hl (by decide) rfl (fun ls hl => ?_)
    refine lv_iconst (v := iI 0) Ex Eb dL_isSound_13 rfl ?_
    refine lv_istore_n (lv' := [(3, .int (iI 0)), (2, .int (iI 0)), (1, .int (iI 0)), (0, .ref (D.1 0))]) Ex Eb dL_isSound_14 rfl hl (by decide) rfl (fun ls hl => ?_)
    refine lv_iconst (v := iI 0) Ex Eb dL_isSound_15 rfl ?_
    refine lv_istore (lv' := [(4, .int (iI 0)), (3, .int (iI 0)), (2, .int (iI 0)), (1, .int (iI 0)), (0, .ref (D.1 0))]) Ex Eb dL_isSound_16 hl (by decide) rfl (fun ls hl => ?_)
    refine lv_iconst (v := iI 0) Ex Eb dL_isSound_18 rfl ?_
    refine lv_istore (lv' := [(5, .int (iI 0)), (4, .int (iI 0)), (3, .int (iI 0)), (2, .int (iI 0)), (1, .int (iI 0)), (0, .ref (D.1 0))]) Ex Eb dL_isSound_19 hl (by decide) rfl (fun ls hl => ?_)
    have lp21 : ∀ (n : Nat) (B : Nat → Int) (op ba du ah ix : Int), (Pn (zP Z) - ix).toNat < n → (0 ≤ ix ∧ ix ≤ Pn (zP Z)) → (op = cnt (PL (zP Z)) ix.toNat) → (ba = sumF (fun i => PL (zP Z) i 1) ix.toNat) → (du = sumF (fun i => dueL (PL (zP Z) i)) ix.toNat) → (ah = sumF (fun k => runL 120 (PL (zP Z) k) 6 - PL (zP Z) k 6) ix.toNat) → ∀ (H : Heap) (locs : List Loc) (ls : Array Slot), lo_Wd X ((wC X D (zUA Z B))) A9 s9.heap H locs → lv_has ls 11 [(0, .ref (D.1 0)), (1, .int (iI op)), (2, .int (iI ba)), (3, .int (iI du)), (4, .int (iI ah)), (5, .int (iI ix))] → W p9 l e9 ({ frames := 9, cells := 0, slots := 0, locals := 164 } : Room) s9 m9 ([.ref (D.1 0)] : List Value).toArray bl9 me9 c9 H locs 0 0 (MQ bl9 (lo_Qc X ((wC X D (zUA Z A))) s9.heap.size (fun v9 w9 => ∃ A9 : Nat → Int, (True) ∧ v9 = some (.int (iI 1)) ∧ w9 = (wC X D (zUA Z A9)))) ([.ref (D.1 0)] : List Value).toArray s9 0 0 A9) (F0 m9 21 ls []) := by
      intro n
      induction n with
      | zero => intro B op ba du ah ix hn; exact absurd hn (Nat.not_lt_zero _)
      | succ n ih21 =>
        intro B op ba du ah ix hn21 iv21_0 iv21_1 iv21_2 iv21_3 iv21_4 H locs ls hw hl
        refine lv_iload Ex Eb dL_isSound_21 (lv_at hl 5 rfl) ?_
        refine lv_aload_n Ex Eb dL_isSound_23 rfl (lv_at hl 0 rfl) ?_
        refine lw_c7 (rest := [.int (iI ix)]) E hK hV hw (qX7_loanCount l X kS D (zUA Z B)  hPI) (cwV 0 E.2.2.2.2 gL_isSound_X7_loanCount rfl rfl rfl (by decide +kernel) ⟨Nat.le_of_ble_eq_true rfl, Nat.le_of_ble_eq_true rfl⟩) hl.1 rfl rfl (Nat.le_of_ble_eq_true rfl) dL_isSound_24 ⟨Nat.le_of_ble_eq_true rfl, Nat.le_of_ble_eq_true rfl⟩ (fun t3 H locs _ hw => ?_)
        have hw : lo_Wd X ((wC X D (zUA Z t3))) A9 s9.heap H locs := hw
        refine W.eq (g2 := F0 m9 27 ls [.int (iI (Pn (zP Z))), .int (iI ix)]) rfl ?_
        refine lo_icmp_ge (tgt := 405) E dL_isSound_27 (by decide) (by omega) (by omega) (fun c4 => ?_) (fun c4 => ?_)
        · skip
          have e9 : ix = Pn (zP Z) := by omega
          rw [e9] at iv21_1 iv21_2 iv21_3 iv21_4
          have hcn := cnt_r (PL (zP Z)) (Pn (zP Z)).toNat
          have hsb := sum_b hPI
          have hsa := sum_a hPI
          have hds := dueS_r hPI
          have hde : dueS (zP Z) = sumF (fun i => dueL (PL (zP Z) i)) (Pn (zP Z)).toNat := rfl
          refine lv_aload_n Ex Eb dL_isSound_405 rfl (lv_at hl 0 rfl) ?_
          refine lw_c7 (rest := []) E hK hV hw (qX7_openCount l X kS D (zUA Z t3)  hPI) (cwV 0 E.2.2.2.2 gL_isSound_X7_openCount rfl rfl rfl (by decide +kernel) ⟨Nat.le_of_ble_eq_true rfl, Nat.le_of_ble_eq_true rfl⟩) hl.1 rfl rfl (Nat.le_of_ble_eq_true rfl) dL_isSound_406 ⟨Nat.le_of_ble_eq_true rfl, Nat.le_of_ble_eq_true rfl⟩ (fun t5 H locs _ hw => ?_)
          have hw : lo_Wd X ((wC X D (zUA Z t5))) A9 s9.heap H locs := hw
          refine W.eq (g2 := F0 m9 409 ls [.int (iI (cnt (PL (zP Z)) (Pn (zP Z)).toNat))]) rfl ?_
          refine lv_iload_n Ex Eb dL_isSound_409 rfl (lv_at hl 1 rfl) ?_
          refine lo_icmp_ne (tgt := 442) E dL_isSound_410 (by decide) (by omega) (by omega) (fun c6 => ?_) (fun c6 => ?_)
          · exact absurd c6 (by omega)
          · skip
            refine lv_aload_n Ex Eb dL_isSound_413 rfl (lv_at hl 0 rfl) ?_
            refine lw_c7 (rest := []) E hK hV hw (qX7_totalBalance l X kS D (zUA Z t5)  hPI) (cwV 0 E.2.2.2.2 gL_isSound_X7_totalBalance rfl rfl rfl (by decide +kernel) ⟨Nat.le_of_ble_eq_true rfl, Nat.le_of_ble_eq_true rfl⟩) hl.1 rfl rfl (Nat.le_of_ble_eq_true rfl) dL_isSound_414 ⟨Nat.le_of_ble_eq_true rfl, Nat.le_of_ble_eq_true rfl⟩ (fun t7 H locs _ hw => ?_)
            have hw : lo_Wd X ((wC X D (zUA Z t7))) A9 s9.heap H locs := hw
            refine W.eq (g2 := F0 m9 417 ls [.int (iI (sumF (fun i => PL (zP Z) i 1) (Pn (zP Z)).toNat))]) rfl ?_
            refine lv_iload_n Ex Eb dL_isSound_417 rfl (lv_at hl 2 rfl) ?_
            refine lo_icmp_ne (tgt := 442) E dL_isSound_418 (by decide) (by omega) (by omega) (fun c8 => ?_) (fun c8 => ?_)
            · exact absurd c8 (by omega)
            · skip
              refine lv_aload_n Ex Eb dL_isSound_421 rfl (lv_at hl 0 rfl) ?_
              refine lw_c7 (rest := []) E hK hV hw (qX7_totalDue l X kS D (zUA Z t7)  hPI) (cwV 0 E.2.2.2.2 gL_isSound_X7_totalDue rfl rfl rfl (by decide +kernel) ⟨Nat.le_of_ble_eq_true rfl, Nat.le_of_ble_eq_true rfl⟩) hl.1 rfl rfl (Nat.le_of_ble_eq_true rfl) dL_isSound_422 ⟨Nat.le_of_ble_eq_true rfl, Nat.le_of_ble_eq_true rfl⟩ (fun t9 H locs _ hw => ?_)
              have hw : lo_Wd X ((wC X D (zUA Z t9))) A9 s9.heap H locs := hw
              refine W.eq (g2 := F0 m9 425 ls [.int (iI (dueS (zP Z)))]) rfl ?_
              refine lv_iload_n Ex Eb dL_isSound_425 rfl (lv_at hl 3 rfl) ?_
              refine lo_icmp_ne (tgt := 442) E dL_isSound_426 (by decide) (by omega) (by omega) (fun c10 => ?_) (fun c10 => ?_)
              · exact absurd c10 (by omega)
              · skip
                refine lv_aload_n Ex Eb dL_isSound_429 rfl (lv_at hl 0 rfl) ?_
                refine lw_c7 (rest := []) E hK hV hw (qX7_totalInterestAhead l X kS D (zUA Z t9)  hPI) (cwV 0 E.2.2.2.2 gL_isSound_X7_totalInterestAhead rfl rfl rfl (by decide +kernel) ⟨Nat.le_of_ble_eq_true rfl, Nat.le_of_ble_eq_true rfl⟩) hl.1 rfl rfl (Nat.le_of_ble_eq_true rfl) dL_isSound_430 ⟨Nat.le_of_ble_eq_true rfl, Nat.le_of_ble_eq_true rfl⟩ (fun t11 H locs _ hw => ?_)
                have hw : lo_Wd X ((wC X D (zUA Z t11))) A9 s9.heap H locs := hw
                refine W.eq (g2 := F0 m9 433 ls [.int (iI (sumF (fun k => runL 120 (PL (zP Z) k) 6 - PL (zP Z) k 6) (Pn (zP Z)).toNat))]) rfl ?_
                refine lv_iload Ex Eb dL_isSound_433 (lv_at hl 4 rfl) ?_
                refine lo_icmp_ne (tgt := 442) E dL_isSound_435 (by decide) (by omega) (by omega) (fun c12 => ?_) (fun c12 => ?_)
                · exact absurd c12 (by omega)
                · skip
                  refine lv_iconst (v := iI 1) Ex Eb dL_isSound_438 rfl ?_
                  refine lv_goto (tgt := 443) Ex Eb dL_isSound_439 (by decide) ?_
                  exact lo_zret E hRt hLk hK hAe hw dL_isSound_443 rfl wC_f ⟨t11, (by omega), rfl, rfl⟩
        · skip
          have hin : 0 ≤ ix ∧ ix < Pn (zP Z) := by omega
          have hLi := hPI.2.2.2 ix.toNat (by omega)
          have hPc := hPC ix.toNat (by omega)
          obtain ⟨⟨hb0, hb1⟩, ⟨hr0, hr1⟩, ⟨hc0, hc1⟩, ⟨hm0, hm1⟩, ⟨hi0, hi1⟩, ⟨hs0, hs1, hs2⟩, hop, hcl⟩ := id hLi
          have ho := opz_c (PL (zP Z) ix.toNat)
          have hdu := dueL_r hLi
          have hdc := dueL_c (PL (zP Z) ix.toNat)
          have hia := runL_6 120 _ hLi
          have hsh := shut_0 hLi
          have hlo := lastL_o hLi
          have hmb := lo_mb hb0 hr0 hr1
          have hfr := fI_r hb0 hr0 hr1 hc0 hc1
          have hfI : fI (PL (zP Z) ix.toNat 1) (PL (zP Z) ix.toNat 2) (PL (zP Z) ix.toNat 5) = (PL (zP Z) ix.toNat 1 * PL (zP Z) ix.toNat 2 + PL (zP Z) ix.toNat 5) / 120000 := rfl
          refine lv_aload_n Ex Eb dL_isSound_30 rfl (lv_at hl 0 rfl) ?_
          refine lv_iload Ex Eb dL_isSound_31 (lv_at hl 5 rfl) ?_
          refine lw_cL (rest := []) E hK hV hw (kL_balance l X kS D (zUA Z t3) ix hPI hin) (vx_cwSW 2 E.2.2.2.2 gL_isSound_L_balance rfl rfl rfl (by decide +kernel) ⟨Nat.le_of_ble_eq_true rfl, Nat.le_of_ble_eq_true rfl⟩) hl.1 rfl rfl (Nat.le_of_ble_eq_true rfl) dL_isSound_33 ⟨Nat.le_of_ble_eq_true rfl, Nat.le_of_ble_eq_true rfl⟩ (fun t13 H locs _ hw => ?_)
          have hw : lo_Wd X ((wC X D (zUA Z t13))) A9 s9.heap H locs := hw
          refine W.eq (g2 := F0 m9 36 ls [.int (iI (PL (zP Z) ix.toNat 1))]) rfl ?_
          refine lv_istore (lv' := [(6, .int (iI (PL (zP Z) ix.toNat 1))), (0, .ref (D.1 0)), (1, .int (iI op)), (2, .int (iI ba)), (3, .int (iI du)), (4, .int (iI ah)), (5, .int (iI ix))]) Ex Eb dL_isSound_36 hl (by decide) rfl (fun ls hl => ?_)
          refine lv_aload_n Ex Eb dL_isSound_38 rfl (lv_at hl 1 rfl) ?_
          refine lv_iload Ex Eb dL_isSound_39 (lv_at hl 6 rfl) ?_
          refine lw_cL (rest := []) E hK hV hw (kL_isOpen l X kS D (zUA Z t13) ix hPI hin) (vx_cwSW 2 E.2.2.2.2 gL_isSound_L_isOpen rfl rfl rfl (by decide +kernel) ⟨Nat.le_of_ble_eq_true rfl, Nat.le_of_ble_eq_true rfl⟩) hl.1 rfl rfl (Nat.le_of_ble_eq_true rfl) dL_isSound_41 ⟨Nat.le_of_ble_eq_true rfl, Nat.le_of_ble_eq_true rfl⟩ (fun t14 H locs _ hw => ?_)
          have hw : lo_Wd X ((wC X D (zUA Z t14))) A9 s9.heap H locs := hw
          refine W.eq (g2 := F0 m9 44 ls [.int (iI (opz (PL (zP Z) ix.toNat)))]) rfl ?_
          refine lv_istore (lv' := [(7, .int (iI (opz (PL (zP Z) ix.toNat)))), (6, .int (iI (PL (zP Z) ix.toNat 1))), (0, .ref (D.1 0)), (1, .int (iI op)), (2, .int (iI ba)), (3, .int (iI du)), (4, .int (iI ah)), (5, .int (iI ix))]) Ex Eb dL_isSound_44 hl (by decide) rfl (fun ls hl => ?_)
          refine lv_iload Ex Eb dL_isSound_46 (lv_at hl 0 rfl) ?_
          refine lv_iload Ex Eb dL_isSound_48 (lv_at hl 1 rfl) ?_
          refine lo_if_le (tgt := 57) E dL_isSound_50 (by decide) (by omega) (fun c15 => ?_) (fun c15 => ?_)
          · skip
            refine lv_iconst (v := iI 0) Ex Eb dL_isSound_57 rfl ?_
            refine lo_icmp_ne (tgt := 91) E dL_isSound_58 (by decide) (by omega) (by omega) (fun c16 => ?_) (fun c16 => ?_)
            · exact absurd c16 (by omega)
            · skip
              refine lv_iload Ex Eb dL_isSound_61 (lv_at hl 1 rfl) ?_
              refine lo_if_lt (tgt := 91) E dL_isSound_63 (by decide) (by omega) (fun c17 => ?_) (fun c17 => ?_)
              · exact absurd c17 (by omega)
              · skip
                refine lv_aload_n Ex Eb dL_isSound_66 rfl (lv_at hl 2 rfl) ?_
                refine lv_iload Ex Eb dL_isSound_67 (lv_at hl 7 rfl) ?_
                refine lw_cL (rest := []) E hK hV hw (kL_principal l X kS D (zUA Z t14) ix hPI hin) (vx_cwSW 2 E.2.2.2.2 gL_isSound_L_principal rfl rfl rfl (by decide +kernel) ⟨Nat.le_of_ble_eq_true rfl, Nat.le_of_ble_eq_true rfl⟩) hl.1 rfl rfl (Nat.le_of_ble_eq_true rfl) dL_isSound_69 ⟨Nat.le_of_ble_eq_true rfl, Nat.le_of_ble_eq_true rfl⟩ (fun t18 H locs _ hw => ?_)
                have hw : lo_Wd X ((wC X D (zUA Z t18))) A9 s9.heap H locs := hw
                refine W.eq (g2 := F0 m9 72 ls [.int (iI (PL (zP Z) ix.toNat 0))]) rfl ?_
                refine lv_aload_n Ex Eb dL_isSound_72 rfl (lv_at hl 2 rfl) ?_
                refine lv_iload Ex Eb dL_isSound_73 (lv_at hl 7 rfl) ?_
                refine lw_cL (rest := [.int (iI (PL (zP Z) ix.toNat 0))]) E hK hV hw (kL_interestSoFar l X kS D (zUA Z t18) ix hPI hin) (vx_cwSW 2 E.2.2.2.2 gL_isSound_L_interestSoFar rfl rfl rfl (by decide +kernel) ⟨Nat.le_of_ble_eq_true rfl, Nat.le_of_ble_eq_true rfl⟩) hl.1 rfl rfl (Nat.le_of_ble_eq_true rfl) dL_isSound_75 ⟨Nat.le_of_ble_eq_true rfl, Nat.le_of_ble_eq_true rfl⟩ (fun t19 H locs _ hw => ?_)
                have hw : lo_Wd X ((wC X D (zUA Z t19))) A9 s9.heap H locs := hw
                refine W.eq (g2 := F0 m9 78 ls [.int (iI (PL (zP Z) ix.toNat 6)), .int (iI (PL (zP Z) ix.toNat 0))]) rfl ?_
                refine lo_iadd E dL_isSound_78 ?_
                refine lv_aload_n Ex Eb dL_isSound_79 rfl (lv_at hl 2 rfl) ?_
                refine lv_iload Ex Eb dL_isSound_80 (lv_at hl 7 rfl) ?_
                refine lw_cL (rest := [.int (iI (PL (zP Z) ix.toNat 0 + PL (zP Z) ix.toNat 6))]) E hK hV hw (kL_paidSoFar l X kS D (zUA Z t19) ix hPI hin) (vx_cwSW 2 E.2.2.2.2 gL_isSound_L_paidSoFar rfl rfl rfl (by decide +kernel) ⟨Nat.le_of_ble_eq_true rfl, Nat.le_of_ble_eq_true rfl⟩) hl.1 rfl rfl (Nat.le_of_ble_eq_true rfl) dL_isSound_82 ⟨Nat.le_of_ble_eq_true rfl, Nat.le_of_ble_eq_true rfl⟩ (fun t20 H locs _ hw => ?_)
                have hw : lo_Wd X ((wC X D (zUA Z t20))) A9 s9.heap H locs := hw
                refine W.eq (g2 := F0 m9 85 ls [.int (iI (PL (zP Z) ix.toNat 7)), .int (iI (PL (zP Z) ix.toNat 0 + PL (zP Z) ix.toNat 6))]) rfl ?_
                refine lo_isub E dL_isSound_85 ?_
                refine lv_iload Ex Eb dL_isSound_86 (lv_at hl 1 rfl) ?_
                refine lo_icmp_eq (tgt := 93) E dL_isSound_88 (by decide) (by omega) (by omega) (fun c21 => ?_) (fun c21 => ?_)
                · skip
                  refine lv_aload_n Ex Eb dL_isSound_93 rfl (lv_at hl 2 rfl) ?_
                  refine lv_iload Ex Eb dL_isSound_94 (lv_at hl 7 rfl) ?_
                  refine lw_cL (rest := []) E hK hV hw (kL_carry l X kS D (zUA Z t20) ix hPI hin) (vx_cwSW 2 E.2.2.2.2 gL_isSound_L_carry rfl rfl rfl (by decide +kernel) ⟨Nat.le_of_ble_eq_true rfl, Nat.le_of_ble_eq_true rfl⟩) hl.1 rfl rfl (Nat.le_of_ble_eq_true rfl) dL_isSound_96 ⟨Nat.le_of_ble_eq_true rfl, Nat.le_of_ble_eq_true rfl⟩ (fun t22 H locs _ hw => ?_)
                  have hw : lo_Wd X ((wC X D (zUA Z t22))) A9 s9.heap H locs := hw
                  refine W.eq (g2 := F0 m9 99 ls [.int (iI (PL (zP Z) ix.toNat 5))]) rfl ?_
                  refine lo_if_lt (tgt := 142) E dL_isSound_99 (by decide) (by omega) (fun c23 => ?_) (fun c23 => ?_)
                  · exact absurd c23 (by omega)
                  · skip
                    refine lv_aload_n Ex Eb dL_isSound_102 rfl (lv_at hl 2 rfl) ?_
                    refine lv_iload Ex Eb dL_isSound_103 (lv_at hl 7 rfl) ?_
                    refine lw_cL (rest := []) E hK hV hw (kL_carry l X kS D (zUA Z t22) ix hPI hin) (vx_cwSW 2 E.2.2.2.2 gL_isSound_L_carry rfl rfl rfl (by decide +kernel) ⟨Nat.le_of_ble_eq_true rfl, Nat.le_of_ble_eq_true rfl⟩) hl.1 rfl rfl (Nat.le_of_ble_eq_true rfl) dL_isSound_105 ⟨Nat.le_of_ble_eq_true rfl, Nat.le_of_ble_eq_true rfl⟩ (fun t24 H locs _ hw => ?_)
                    have hw : lo_Wd X ((wC X D (zUA Z t24))) A9 s9.heap H locs := hw
                    refine W.eq (g2 := F0 m9 108 ls [.int (iI (PL (zP Z) ix.toNat 5))]) rfl ?_
                    refine lo_ldc (z := 119999) E hc209 dL_isSound_108 rfl ?_
                    refine lo_icmp_gt (tgt := 142) E dL_isSound_110 (by decide) (by omega) (by omega) (fun c25 => ?_) (fun c25 => ?_)
                    · exact absurd c25 (by omega)
                    · skip
                      refine lv_aload_n Ex Eb dL_isSound_113 rfl (lv_at hl 2 rfl) ?_
                      refine lv_iload Ex Eb dL_isSound_114 (lv_at hl 7 rfl) ?_
                      refine lw_cL (rest := []) E hK hV hw (kL_skippedMonths l X kS D (zUA Z t24) ix hPI hin) (vx_cwSW 2 E.2.2.2.2 gL_isSound_L_skippedMonths rfl rfl rfl (by decide +kernel) ⟨Nat.le_of_ble_eq_true rfl, Nat.le_of_ble_eq_true rfl⟩) hl.1 rfl rfl (Nat.le_of_ble_eq_true rfl) dL_isSound_116 ⟨Nat.le_of_ble_eq_true rfl, Nat.le_of_ble_eq_true rfl⟩ (fun t26 H locs _ hw => ?_)
                      have hw : lo_Wd X ((wC X D (zUA Z t26))) A9 s9.heap H locs := hw
                      refine W.eq (g2 := F0 m9 119 ls [.int (iI (PL (zP Z) ix.toNat 9))]) rfl ?_
                      refine lo_if_lt (tgt := 142) E dL_isSound_119 (by decide) (by omega) (fun c27 => ?_) (fun c27 => ?_)
                      · exact absurd c27 (by omega)
                      · skip
                        refine lv_aload_n Ex Eb dL_isSound_122 rfl (lv_at hl 2 rfl) ?_
                        refine lv_iload Ex Eb dL_isSound_123 (lv_at hl 7 rfl) ?_
                        refine lw_cL (rest := []) E hK hV hw (kL_skippedMonths l X kS D (zUA Z t26) ix hPI hin) (vx_cwSW 2 E.2.2.2.2 gL_isSound_L_skippedMonths rfl rfl rfl (by decide +kernel) ⟨Nat.le_of_ble_eq_true rfl, Nat.le_of_ble_eq_true rfl⟩) hl.1 rfl rfl (Nat.le_of_ble_eq_true rfl) dL_isSound_125 ⟨Nat.le_of_ble_eq_true rfl, Nat.le_of_ble_eq_true rfl⟩ (fun t28 H locs _ hw => ?_)
                        have hw : lo_Wd X ((wC X D (zUA Z t28))) A9 s9.heap H locs := hw
                        refine W.eq (g2 := F0 m9 128 ls [.int (iI (PL (zP Z) ix.toNat 9))]) rfl ?_
                        refine lv_bipush (v := iI 6) Ex Eb dL_isSound_128 rfl ?_
                        refine lo_icmp_gt (tgt := 142) E dL_isSound_130 (by decide) (by omega) (by omega) (fun c29 => ?_) (fun c29 => ?_)
                        · exact absurd c29 (by omega)
                        · skip
                          refine lv_aload_n Ex Eb dL_isSound_133 rfl (lv_at hl 2 rfl) ?_
                          refine lv_iload Ex Eb dL_isSound_134 (lv_at hl 7 rfl) ?_
                          refine lw_cL (rest := []) E hK hV hw (kL_paidMonths l X kS D (zUA Z t28) ix hPI hin) (vx_cwSW 2 E.2.2.2.2 gL_isSound_L_paidMonths rfl rfl rfl (by decide +kernel) ⟨Nat.le_of_ble_eq_true rfl, Nat.le_of_ble_eq_true rfl⟩) hl.1 rfl rfl (Nat.le_of_ble_eq_true rfl) dL_isSound_136 ⟨Nat.le_of_ble_eq_true rfl, Nat.le_of_ble_eq_true rfl⟩ (fun t30 H locs _ hw => ?_)
                          have hw : lo_Wd X ((wC X D (zUA Z t30))) A9 s9.heap H locs := hw
                          refine W.eq (g2 := F0 m9 139 ls [.int (iI (PL (zP Z) ix.toNat 8))]) rfl ?_
                          refine lw_if_ge (tgt := 144) E dL_isSound_139 (by decide) (by omega) (fun c31 => ?_) (fun c31 => ?_)
                          · skip
                            refine lv_iload Ex Eb dL_isSound_144 (lv_at hl 0 rfl) ?_
                            refine lo_if_ne (tgt := 214) E dL_isSound_146 (by decide) (by omega) (fun c32 => ?_) (fun c32 => ?_)
                            · exact absurd c32 (by omega)
                            · skip
                              have hcz : PL (zP Z) ix.toNat 1 ≤ 0 := by omega
                              have hsz := hsh hcz
                              have hcz2 := hcl (by omega)
                              refine lv_aload_n Ex Eb dL_isSound_149 rfl (lv_at hl 2 rfl) ?_
                              refine lv_iload Ex Eb dL_isSound_150 (lv_at hl 7 rfl) ?_
                              refine lw_cL (rest := []) E hK hV hw (kL_monthsLeft l X kS D (zUA Z t30) ix hPI hin) (vx_cwSW 2 E.2.2.2.2 gL_isSound_L_monthsLeft rfl rfl rfl (by decide +kernel) ⟨Nat.le_of_ble_eq_true rfl, Nat.le_of_ble_eq_true rfl⟩) hl.1 rfl rfl (Nat.le_of_ble_eq_true rfl) dL_isSound_152 ⟨Nat.le_of_ble_eq_true rfl, Nat.le_of_ble_eq_true rfl⟩ (fun t33 H locs _ hw => ?_)
                              have hw : lo_Wd X ((wC X D (zUA Z t33))) A9 s9.heap H locs := hw
                              refine W.eq (g2 := F0 m9 155 ls [.int (iI (PL (zP Z) ix.toNat 3))]) rfl ?_
                              refine lo_if_ne (tgt := 212) E dL_isSound_155 (by decide) (by omega) (fun c34 => ?_) (fun c34 => ?_)
                              · exact absurd c34 (by omega)
                              · skip
                                refine lv_aload_n Ex Eb dL_isSound_158 rfl (lv_at hl 2 rfl) ?_
                                refine lv_iload Ex Eb dL_isSound_159 (lv_at hl 7 rfl) ?_
                                refine lw_cL (rest := []) E hK hV hw (kL_installment l X kS D (zUA Z t33) ix hPI hin) (vx_cwSW 2 E.2.2.2.2 gL_isSound_L_installment rfl rfl rfl (by decide +kernel) ⟨Nat.le_of_ble_eq_true rfl, Nat.le_of_ble_eq_true rfl⟩) hl.1 rfl rfl (Nat.le_of_ble_eq_true rfl) dL_isSound_161 ⟨Nat.le_of_ble_eq_true rfl, Nat.le_of_ble_eq_true rfl⟩ (fun t35 H locs _ hw => ?_)
                                have hw : lo_Wd X ((wC X D (zUA Z t35))) A9 s9.heap H locs := hw
                                refine W.eq (g2 := F0 m9 164 ls [.int (iI (PL (zP Z) ix.toNat 4))]) rfl ?_
                                refine lo_if_ne (tgt := 212) E dL_isSound_164 (by decide) (by omega) (fun c36 => ?_) (fun c36 => ?_)
                                · exact absurd c36 (by omega)
                                · skip
                                  refine lv_aload_n Ex Eb dL_isSound_167 rfl (lv_at hl 2 rfl) ?_
                                  refine lv_iload Ex Eb dL_isSound_168 (lv_at hl 7 rfl) ?_
                                  refine lw_cL (rest := []) E hK hV hw (kL_carry l X kS D (zUA Z t35) ix hPI hin) (vx_cwSW 2 E.2.2.2.2 gL_isSound_L_carry rfl rfl rfl (by decide +kernel) ⟨Nat.le_of_ble_eq_true rfl, Nat.le_of_ble_eq_true rfl⟩) hl.1 rfl rfl (Nat.le_of_ble_eq_true rfl) dL_isSound_170 ⟨Nat.le_of_ble_eq_true rfl, Nat.le_of_ble_eq_true rfl⟩ (fun t37 H locs _ hw => ?_)
                                  have hw : lo_Wd X ((wC X D (zUA Z t37))) A9 s9.heap H locs := hw
                                  refine W.eq (g2 := F0 m9 173 ls [.int (iI (PL (zP Z) ix.toNat 5))]) rfl ?_
                                  refine lo_if_ne (tgt := 212) E dL_isSound_173 (by decide) (by omega) (fun c38 => ?_) (fun c38 => ?_)
                                  · exact absurd c38 (by omega)
                                  · skip
                                    refine lv_aload_n Ex Eb dL_isSound_176 rfl (lv_at hl 2 rfl) ?_
                                    refine lv_iload Ex Eb dL_isSound_177 (lv_at hl 7 rfl) ?_
                                    refine lw_cL (rest := []) E hK hV hw (kL_amountDue l X kS D (zUA Z t37) ix hPI hin) (vx_cwSW 2 E.2.2.2.2 gL_isSound_L_amountDue rfl rfl rfl (by decide +kernel) ⟨Nat.le_of_ble_eq_true rfl, Nat.le_of_ble_eq_true rfl⟩) hl.1 rfl rfl (Nat.le_of_ble_eq_true rfl) dL_isSound_179 ⟨Nat.le_of_ble_eq_true rfl, Nat.le_of_ble_eq_true rfl⟩ (fun t39 H locs _ hw => ?_)
                                    have hw : lo_Wd X ((wC X D (zUA Z t39))) A9 s9.heap H locs := hw
                                    refine W.eq (g2 := F0 m9 182 ls [.int (iI (dueL (PL (zP Z) ix.toNat)))]) rfl ?_
                                    refine lo_if_ne (tgt := 212) E dL_isSound_182 (by decide) (by omega) (fun c40 => ?_) (fun c40 => ?_)
                                    · exact absurd c40 (by omega)
                                    · skip
                                      refine lv_aload_n Ex Eb dL_isSound_185 rfl (lv_at hl 2 rfl) ?_
                                      refine lv_iload Ex Eb dL_isSound_186 (lv_at hl 7 rfl) ?_
                                      refine lw_cL (rest := []) E hK hV hw (kL_interestDue l X kS D (zUA Z t39) ix hPI hin) (vx_cwSW 2 E.2.2.2.2 gL_isSound_L_interestDue rfl rfl rfl (by decide +kernel) ⟨Nat.le_of_ble_eq_true rfl, Nat.le_of_ble_eq_true rfl⟩) hl.1 rfl rfl (Nat.le_of_ble_eq_true rfl) dL_isSound_188 ⟨Nat.le_of_ble_eq_true rfl, Nat.le_of_ble_eq_true rfl⟩ (fun t41 H locs _ hw => ?_)
                                      have hw : lo_Wd X ((wC X D (zUA Z t41))) A9 s9.heap H locs := hw
                                      refine W.eq (g2 := F0 m9 191 ls [.int (iI (fI (PL (zP Z) ix.toNat 1) (PL (zP Z) ix.toNat 2) (PL (zP Z) ix.toNat 5)))]) rfl ?_
                                      refine lo_if_ne (tgt := 212) E dL_isSound_191 (by decide) (by omega) (fun c42 => ?_) (fun c42 => ?_)
                                      · exact absurd c42 (by omega)
                                      · skip
                                        refine lv_aload_n Ex Eb dL_isSound_194 rfl (lv_at hl 2 rfl) ?_
                                        refine lv_iload Ex Eb dL_isSound_195 (lv_at hl 7 rfl) ?_
                                        refine lw_cL (rest := []) E hK hV hw (kL_interestAhead l X kS D (zUA Z t41) ix hPI hin) (vx_cwSW 2 E.2.2.2.2 gL_isSound_L_interestAhead rfl rfl rfl (by decide +kernel) ⟨Nat.le_of_ble_eq_true rfl, Nat.le_of_ble_eq_true rfl⟩) hl.1 rfl rfl (Nat.le_of_ble_eq_true rfl) dL_isSound_197 ⟨Nat.le_of_ble_eq_true rfl, Nat.le_of_ble_eq_true rfl⟩ (fun t43 H locs _ hw => ?_)
                                        have hw : lo_Wd X ((wC X D (zUA Z t43))) A9 s9.heap H locs := hw
                                        refine W.eq (g2 := F0 m9 200 ls [.int (iI (runL 120 (PL (zP Z) ix.toNat) 6 - PL (zP Z) ix.toNat 6))]) rfl ?_
                                        refine lo_if_ne (tgt := 212) E dL_isSound_200 (by decide) (by omega) (fun c44 => ?_) (fun c44 => ?_)
                                        · exact absurd c44 (by omega)
                                        · skip
                                          refine lv_aload_n Ex Eb dL_isSound_203 rfl (lv_at hl 2 rfl) ?_
                                          refine lv_iload Ex Eb dL_isSound_204 (lv_at hl 7 rfl) ?_
                                          refine lw_cL (rest := []) E hK hV hw (kL_lastDue l X kS D (zUA Z t43) ix hPI hin) (vx_cwSW 2 E.2.2.2.2 gL_isSound_L_lastDue rfl rfl rfl (by decide +kernel) ⟨Nat.le_of_ble_eq_true rfl, Nat.le_of_ble_eq_true rfl⟩) hl.1 rfl rfl (Nat.le_of_ble_eq_true rfl) dL_isSound_206 ⟨Nat.le_of_ble_eq_true rfl, Nat.le_of_ble_eq_true rfl⟩ (fun t45 H locs _ hw => ?_)
                                          have hw : lo_Wd X ((wC X D (zUA Z t45))) A9 s9.heap H locs := hw
                                          refine W.eq (g2 := F0 m9 209 ls [.int (iI (lastL 120 (PL (zP Z) ix.toNat) 0))]) rfl ?_
                                          refine lo_if_eq (tgt := 214) E dL_isSound_209 (by decide) (by omega) (fun c46 => ?_) (fun c46 => ?_)
                                          · skip
                                            refine lv_iload Ex Eb dL_isSound_214 (lv_at hl 0 rfl) ?_
                                            refine lo_if_eq (tgt := 374) E dL_isSound_216 (by decide) (by omega) (fun c47 => ?_) (fun c47 => ?_)
                                            · skip
                                              refine lv_iload_n Ex Eb dL_isSound_374 rfl (lv_at hl 4 rfl) ?_
                                              refine lv_iload Ex Eb dL_isSound_375 (lv_at hl 1 rfl) ?_
                                              refine lo_iadd E dL_isSound_377 ?_
                                              refine lv_istore_n (lv' := [(2, .int (iI (ba + PL (zP Z) ix.toNat 1))), (7, .int (iI (opz (PL (zP Z) ix.toNat)))), (6, .int (iI (PL (zP Z) ix.toNat 1))), (0, .ref (D.1 0)), (1, .int (iI op)), (3, .int (iI du)), (4, .int (iI ah)), (5, .int (iI ix))]) Ex Eb dL_isSound_378 rfl hl (by decide) rfl (fun ls hl => ?_)
                                              refine lv_iload_n Ex Eb dL_isSound_379 rfl (lv_at hl 5 rfl) ?_
                                              refine lv_aload_n Ex Eb dL_isSound_380 rfl (lv_at hl 3 rfl) ?_
                                              refine lv_iload Ex Eb dL_isSound_381 (lv_at hl 7 rfl) ?_
                                              refine lw_cL (rest := [.int (iI du)]) E hK hV hw (kL_amountDue l X kS D (zUA Z t45) ix hPI hin) (vx_cwSW 2 E.2.2.2.2 gL_isSound_L_amountDue rfl rfl rfl (by decide +kernel) ⟨Nat.le_of_ble_eq_true rfl, Nat.le_of_ble_eq_true rfl⟩) hl.1 rfl rfl (Nat.le_of_ble_eq_true rfl) dL_isSound_383 ⟨Nat.le_of_ble_eq_true rfl, Nat.le_of_ble_eq_true rfl⟩ (fun t48 H locs _ hw => ?_)
                                              have hw : lo_Wd X ((wC X D (zUA Z t48))) A9 s9.heap H locs := hw
                                              refine W.eq (g2 := F0 m9 386 ls [.int (iI (dueL (PL (zP Z) ix.toNat))), .int (iI du)]) rfl ?_
                                              refine lo_iadd E dL_isSound_386 ?_
                                              refine lv_istore_n (lv' := [(3, .int (iI (du + dueL (PL (zP Z) ix.toNat)))), (2, .int (iI (ba + PL (zP Z) ix.toNat 1))), (7, .int (iI (opz (PL (zP Z) ix.toNat)))), (6, .int (iI (PL (zP Z) ix.toNat 1))), (0, .ref (D.1 0)), (1, .int (iI op)), (4, .int (iI ah)), (5, .int (iI ix))]) Ex Eb dL_isSound_387 rfl hl (by decide) rfl (fun ls hl => ?_)
                                              refine lv_iload Ex Eb dL_isSound_388 (lv_at hl 6 rfl) ?_
                                              refine lv_aload_n Ex Eb dL_isSound_390 rfl (lv_at hl 4 rfl) ?_
                                              refine lv_iload Ex Eb dL_isSound_391 (lv_at hl 7 rfl) ?_
                                              refine lw_cL (rest := [.int (iI ah)]) E hK hV hw (kL_interestAhead l X kS D (zUA Z t48) ix hPI hin) (vx_cwSW 2 E.2.2.2.2 gL_isSound_L_interestAhead rfl rfl rfl (by decide +kernel) ⟨Nat.le_of_ble_eq_true rfl, Nat.le_of_ble_eq_true rfl⟩) hl.1 rfl rfl (Nat.le_of_ble_eq_true rfl) dL_isSound_393 ⟨Nat.le_of_ble_eq_true rfl, Nat.le_of_ble_eq_true rfl⟩ (fun t49 H locs _ hw => ?_)
                                              have hw : lo_Wd X ((wC X D (zUA Z t49))) A9 s9.heap H locs := hw
                                              refine W.eq (g2 := F0 m9 396 ls [.int (iI (runL 120 (PL (zP Z) ix.toNat) 6 - PL (zP Z) ix.toNat 6)), .int (iI ah)]) rfl ?_
                                              refine lo_iadd E dL_isSound_396 ?_
                                              refine lv_istore (lv' := [(4, .int (iI (ah + (runL 120 (PL (zP Z) ix.toNat) 6 - PL (zP Z) ix.toNat 6)))), (3, .int (iI (du + dueL (PL (zP Z) ix.toNat)))), (2, .int (iI (ba + PL (zP Z) ix.toNat 1))), (7, .int (iI (opz (PL (zP Z) ix.toNat)))), (6, .int (iI (PL (zP Z) ix.toNat 1))), (0, .ref (D.1 0)), (1, .int (iI op)), (5, .int (iI ix))]) Ex Eb dL_isSound_397 hl (by decide) rfl (fun ls hl => ?_)
                                              refine lo_iinc (lv' := [(5, .int (iI (ix + 1))), (4, .int (iI (ah + (runL 120 (PL (zP Z) ix.toNat) 6 - PL (zP Z) ix.toNat 6)))), (3, .int (iI (du + dueL (PL (zP Z) ix.toNat)))), (2, .int (iI (ba + PL (zP Z) ix.toNat 1))), (7, .int (iI (opz (PL (zP Z) ix.toNat)))), (6, .int (iI (PL (zP Z) ix.toNat 1))), (0, .ref (D.1 0)), (1, .int (iI op))]) E dL_isSound_399 hl (k := 7) rfl (by decide) rfl (fun ls hl => ?_)
                                              refine lv_goto (tgt := 21) Ex Eb dL_isSound_402 (by decide) ?_
                                              exact ih21 t49 op (ba + PL (zP Z) ix.toNat 1) (du + dueL (PL (zP Z) ix.toNat)) (ah + (runL 120 (PL (zP Z) ix.toNat) 6 - PL (zP Z) ix.toNat 6)) (ix + 1) (by omega) (by omega) (by first | (rw [cnt_y (by omega) (by omega)]; omega) | (rw [cnt_n (by omega) (by omega)]; omega)) (by have e9 := sumF_s (f := (fun i => PL (zP Z) i 1)) (i := ix) (by omega); omega) (by have e9 := sumF_s (f := (fun i => dueL (PL (zP Z) i))) (i := ix) (by omega); omega) (by have e9 := sumF_s (f := (fun k => runL 120 (PL (zP Z) k) 6 - PL (zP Z) k 6)) (i := ix) (by omega); omega) _ _ _ hw (lv_sub hl [6, 7, 3, 2, 1, 0] rfl)
                                            · exact absurd c47 (by omega)
                                          · exact absurd c46 (by omega)
                          · exact absurd c31 (by omega)
                · exact absurd c21 (by omega)
          · skip
            refine lv_iconst (v := iI 1) Ex Eb dL_isSound_53 rfl ?_
            refine lv_goto (tgt := 58) Ex Eb dL_isSound_54 (by decide) ?_
            refine lo_icmp_ne (tgt := 91) E dL_isSound_58 (by decide) (by omega) (by omega) (fun c50 => ?_) (fun c50 => ?_)
            · exact absurd c50 (by omega)
            · skip
              refine lv_iload Ex Eb dL_isSound_61 (lv_at hl 1 rfl) ?_
              refine lo_if_lt (tgt := 91) E dL_isSound_63 (by decide) (by omega) (fun c51 => ?_) (fun c51 => ?_)
              · exact absurd c51 (by omega)
              · skip
                refine lv_aload_n Ex Eb dL_isSound_66 rfl (lv_at hl 2 rfl) ?_
                refine lv_iload Ex Eb dL_isSound_67 (lv_at hl 7 rfl) ?_
                refine lw_cL (rest := []) E hK hV hw (kL_principal l X kS D (zUA Z t14) ix hPI hin) (vx_cwSW 2 E.2.2.2.2 gL_isSound_L_principal rfl rfl rfl (by decide +kernel) ⟨Nat.le_of_ble_eq_true rfl, Nat.le_of_ble_eq_true rfl⟩) hl.1 rfl rfl (Nat.le_of_ble_eq_true rfl) dL_isSound_69 ⟨Nat.le_of_ble_eq_true rfl, Nat.le_of_ble_eq_true rfl⟩ (fun t52 H locs _ hw => ?_)
                have hw : lo_Wd X ((wC X D (zUA Z t52))) A9 s9.heap H locs := hw
                refine W.eq (g2 := F0 m9 72 ls [.int (iI (PL (zP Z) ix.toNat 0))]) rfl ?_
                refine lv_aload_n Ex Eb dL_isSound_72 rfl (lv_at hl 2 rfl) ?_
                refine lv_iload Ex Eb dL_isSound_73 (lv_at hl 7 rfl) ?_
                refine lw_cL (rest := [.int (iI (PL (zP Z) ix.toNat 0))]) E hK hV hw (kL_interestSoFar l X kS D (zUA Z t52) ix hPI hin) (vx_cwSW 2 E.2.2.2.2 gL_isSound_L_interestSoFar rfl rfl rfl (by decide +kernel) ⟨Nat.le_of_ble_eq_true rfl, Nat.le_of_ble_eq_true rfl⟩) hl.1 rfl rfl (Nat.le_of_ble_eq_true rfl) dL_isSound_75 ⟨Nat.le_of_ble_eq_true rfl, Nat.le_of_ble_eq_true rfl⟩ (fun t53 H locs _ hw => ?_)
                have hw : lo_Wd X ((wC X D (zUA Z t53))) A9 s9.heap H locs := hw
                refine W.eq (g2 := F0 m9 78 ls [.int (iI (PL (zP Z) ix.toNat 6)), .int (iI (PL (zP Z) ix.toNat 0))]) rfl ?_
                refine lo_iadd E dL_isSound_78 ?_
                refine lv_aload_n Ex Eb dL_isSound_79 rfl (lv_at hl 2 rfl) ?_
                refine lv_iload Ex Eb dL_isSound_80 (lv_at hl 7 rfl) ?_
                refine lw_cL (rest := [.int (iI (PL (zP Z) ix.toNat 0 + PL (zP Z) ix.toNat 6))]) E hK hV hw (kL_paidSoFar l X kS D (zUA Z t53) ix hPI hin) (vx_cwSW 2 E.2.2.2.2 gL_isSound_L_paidSoFar rfl rfl rfl (by decide +kernel) ⟨Nat.le_of_ble_eq_true rfl, Nat.le_of_ble_eq_true rfl⟩) hl.1 rfl rfl (Nat.le_of_ble_eq_true rfl) dL_isSound_82 ⟨Nat.le_of_ble_eq_true rfl, Nat.le_of_ble_eq_true rfl⟩ (fun t54 H locs _ hw => ?_)
                have hw : lo_Wd X ((wC X D (zUA Z t54))) A9 s9.heap H locs := hw
                refine W.eq (g2 := F0 m9 85 ls [.int (iI (PL (zP Z) ix.toNat 7)), .int (iI (PL (zP Z) ix.toNat 0 + PL (zP Z) ix.toNat 6))]) rfl ?_
                refine lo_isub E dL_isSound_85 ?_
                refine lv_iload Ex Eb dL_isSound_86 (lv_at hl 1 rfl) ?_
                refine lo_icmp_eq (tgt := 93) E dL_isSound_88 (by decide) (by omega) (by omega) (fun c55 => ?_) (fun c55 => ?_)
                · skip
                  refine lv_aload_n Ex Eb dL_isSound_93 rfl (lv_at hl 2 rfl) ?_
                  refine lv_iload Ex Eb dL_isSound_94 (lv_at hl 7 rfl) ?_
                  refine lw_cL (rest := []) E hK hV hw (kL_carry l X kS D (zUA Z t54) ix hPI hin) (vx_cwSW 2 E.2.2.2.2 gL_isSound_L_carry rfl rfl rfl (by decide +kernel) ⟨Nat.le_of_ble_eq_true rfl, Nat.le_of_ble_eq_true rfl⟩) hl.1 rfl rfl (Nat.le_of_ble_eq_true rfl) dL_isSound_96 ⟨Nat.le_of_ble_eq_true rfl, Nat.le_of_ble_eq_true rfl⟩ (fun t56 H locs _ hw => ?_)
                  have hw : lo_Wd X ((wC X D (zUA Z t56))) A9 s9.heap H locs := hw
                  refine W.eq (g2 := F0 m9 99 ls [.int (iI (PL (zP Z) ix.toNat 5))]) rfl ?_
                  refine lo_if_lt (tgt := 142) E dL_isSound_99 (by decide) (by omega) (fun c57 => ?_) (fun c57 => ?_)
                  · exact absurd c57 (by omega)
                  · skip
                    refine lv_aload_n Ex Eb dL_isSound_102 rfl (lv_at hl 2 rfl) ?_
                    refine lv_iload Ex Eb dL_isSound_103 (lv_at hl 7 rfl) ?_
                    refine lw_cL (rest := []) E hK hV hw (kL_carry l X kS D (zUA Z t56) ix hPI hin) (vx_cwSW 2 E.2.2.2.2 gL_isSound_L_carry rfl rfl rfl (by decide +kernel) ⟨Nat.le_of_ble_eq_true rfl, Nat.le_of_ble_eq_true rfl⟩) hl.1 rfl rfl (Nat.le_of_ble_eq_true rfl) dL_isSound_105 ⟨Nat.le_of_ble_eq_true rfl, Nat.le_of_ble_eq_true rfl⟩ (fun t58 H locs _ hw => ?_)
                    have hw : lo_Wd X ((wC X D (zUA Z t58))) A9 s9.heap H locs := hw
                    refine W.eq (g2 := F0 m9 108 ls [.int (iI (PL (zP Z) ix.toNat 5))]) rfl ?_
                    refine lo_ldc (z := 119999) E hc209 dL_isSound_108 rfl ?_
                    refine lo_icmp_gt (tgt := 142) E dL_isSound_110 (by decide) (by omega) (by omega) (fun c59 => ?_) (fun c59 => ?_)
                    · exact absurd c59 (by omega)
                    · skip
                      refine lv_aload_n Ex Eb dL_isSound_113 rfl (lv_at hl 2 rfl) ?_
                      refine lv_iload Ex Eb dL_isSound_114 (lv_at hl 7 rfl) ?_
                      refine lw_cL (rest := []) E hK hV hw (kL_skippedMonths l X kS D (zUA Z t58) ix hPI hin) (vx_cwSW 2 E.2.2.2.2 gL_isSound_L_skippedMonths rfl rfl rfl (by decide +kernel) ⟨Nat.le_of_ble_eq_true rfl, Nat.le_of_ble_eq_true rfl⟩) hl.1 rfl rfl (Nat.le_of_ble_eq_true rfl) dL_isSound_116 ⟨Nat.le_of_ble_eq_true rfl, Nat.le_of_ble_eq_true rfl⟩ (fun t60 H locs _ hw => ?_)
                      have hw : lo_Wd X ((wC X D (zUA Z t60))) A9 s9.heap H locs := hw
                      refine W.eq (g2 := F0 m9 119 ls [.int (iI (PL (zP Z) ix.toNat 9))]) rfl ?_
                      refine lo_if_lt (tgt := 142) E dL_isSound_119 (by decide) (by omega) (fun c61 => ?_) (fun c61 => ?_)
                      · exact absurd c61 (by omega)
                      · skip
                        refine lv_aload_n Ex Eb dL_isSound_122 rfl (lv_at hl 2 rfl) ?_
                        refine lv_iload Ex Eb dL_isSound_123 (lv_at hl 7 rfl) ?_
                        refine lw_cL (rest := []) E hK hV hw (kL_skippedMonths l X kS D (zUA Z t60) ix hPI hin) (vx_cwSW 2 E.2.2.2.2 gL_isSound_L_skippedMonths rfl rfl rfl (by decide +kernel) ⟨Nat.le_of_ble_eq_true rfl, Nat.le_of_ble_eq_true rfl⟩) hl.1 rfl rfl (Nat.le_of_ble_eq_true rfl) dL_isSound_125 ⟨Nat.le_of_ble_eq_true rfl, Nat.le_of_ble_eq_true rfl⟩ (fun t62 H locs _ hw => ?_)
                        have hw : lo_Wd X ((wC X D (zUA Z t62))) A9 s9.heap H locs := hw
                        refine W.eq (g2 := F0 m9 128 ls [.int (iI (PL (zP Z) ix.toNat 9))]) rfl ?_
                        refine lv_bipush (v := iI 6) Ex Eb dL_isSound_128 rfl ?_
                        refine lo_icmp_gt (tgt := 142) E dL_isSound_130 (by decide) (by omega) (by omega) (fun c63 => ?_) (fun c63 => ?_)
                        · exact absurd c63 (by omega)
                        · skip
                          refine lv_aload_n Ex Eb dL_isSound_133 rfl (lv_at hl 2 rfl) ?_
                          refine lv_iload Ex Eb dL_isSound_134 (lv_at hl 7 rfl) ?_
                          refine lw_cL (rest := []) E hK hV hw (kL_paidMonths l X kS D (zUA Z t62) ix hPI hin) (vx_cwSW 2 E.2.2.2.2 gL_isSound_L_paidMonths rfl rfl rfl (by decide +kernel) ⟨Nat.le_of_ble_eq_true rfl, Nat.le_of_ble_eq_true rfl⟩) hl.1 rfl rfl (Nat.le_of_ble_eq_true rfl) dL_isSound_136 ⟨Nat.le_of_ble_eq_true rfl, Nat.le_of_ble_eq_true rfl⟩ (fun t64 H locs _ hw => ?_)
                          have hw : lo_Wd X ((wC X D (zUA Z t64))) A9 s9.heap H locs := hw
                          refine W.eq (g2 := F0 m9 139 ls [.int (iI (PL (zP Z) ix.toNat 8))]) rfl ?_
                          refine lw_if_ge (tgt := 144) E dL_isSound_139 (by decide) (by omega) (fun c65 => ?_) (fun c65 => ?_)
                          · skip
                            refine lv_iload Ex Eb dL_isSound_144 (lv_at hl 0 rfl) ?_
                            refine lo_if_ne (tgt := 214) E dL_isSound_146 (by decide) (by omega) (fun c66 => ?_) (fun c66 => ?_)
                            · skip
                              refine lv_iload Ex Eb dL_isSound_214 (lv_at hl 0 rfl) ?_
                              refine lo_if_eq (tgt := 374) E dL_isSound_216 (by decide) (by omega) (fun c67 => ?_) (fun c67 => ?_)
                              · exact absurd c67 (by omega)
                              · skip
                                have hoz : 0 < PL (zP Z) ix.toNat 1 := by omega
                                have hoz2 := hop hoz
                                have hoz3 := hlo hoz
                                refine lo_iinc (lv' := [(1, .int (iI (op + 1))), (7, .int (iI (opz (PL (zP Z) ix.toNat)))), (6, .int (iI (PL (zP Z) ix.toNat 1))), (0, .ref (D.1 0)), (2, .int (iI ba)), (3, .int (iI du)), (4, .int (iI ah)), (5, .int (iI ix))]) E dL_isSound_219 hl (k := 3) rfl (by decide) rfl (fun ls hl => ?_)
                                refine lv_aload_n Ex Eb dL_isSound_222 rfl (lv_at hl 3 rfl) ?_
                                refine lv_iload Ex Eb dL_isSound_223 (lv_at hl 7 rfl) ?_
                                refine lw_cL (rest := []) E hK hV hw (kL_monthsLeft l X kS D (zUA Z t64) ix hPI hin) (vx_cwSW 2 E.2.2.2.2 gL_isSound_L_monthsLeft rfl rfl rfl (by decide +kernel) ⟨Nat.le_of_ble_eq_true rfl, Nat.le_of_ble_eq_true rfl⟩) hl.1 rfl rfl (Nat.le_of_ble_eq_true rfl) dL_isSound_225 ⟨Nat.le_of_ble_eq_true rfl, Nat.le_of_ble_eq_true rfl⟩ (fun t68 H locs _ hw => ?_)
                                have hw : lo_Wd X ((wC X D (zUA Z t68))) A9 s9.heap H locs := hw
                                refine W.eq (g2 := F0 m9 228 ls [.int (iI (PL (zP Z) ix.toNat 3))]) rfl ?_
                                refine lv_iconst (v := iI 1) Ex Eb dL_isSound_228 rfl ?_
                                refine lo_icmp_lt (tgt := 278) E dL_isSound_229 (by decide) (by omega) (by omega) (fun c69 => ?_) (fun c69 => ?_)
                                · exact absurd c69 (by omega)
                                · skip
                                  refine lv_aload_n Ex Eb dL_isSound_232 rfl (lv_at hl 3 rfl) ?_
                                  refine lv_iload Ex Eb dL_isSound_233 (lv_at hl 7 rfl) ?_
                                  refine lw_cL (rest := []) E hK hV hw (kL_monthsLeft l X kS D (zUA Z t68) ix hPI hin) (vx_cwSW 2 E.2.2.2.2 gL_isSound_L_monthsLeft rfl rfl rfl (by decide +kernel) ⟨Nat.le_of_ble_eq_true rfl, Nat.le_of_ble_eq_true rfl⟩) hl.1 rfl rfl (Nat.le_of_ble_eq_true rfl) dL_isSound_235 ⟨Nat.le_of_ble_eq_true rfl, Nat.le_of_ble_eq_true rfl⟩ (fun t70 H locs _ hw => ?_)
                                  have hw : lo_Wd X ((wC X D (zUA Z t70))) A9 s9.heap H locs := hw
                                  refine W.eq (g2 := F0 m9 238 ls [.int (iI (PL (zP Z) ix.toNat 3))]) rfl ?_
                                  refine lv_bipush (v := iI 120) Ex Eb dL_isSound_238 rfl ?_
                                  refine lo_icmp_gt (tgt := 278) E dL_isSound_240 (by decide) (by omega) (by omega) (fun c71 => ?_) (fun c71 => ?_)
                                  · exact absurd c71 (by omega)
                                  · skip
                                    refine lv_aload_n Ex Eb dL_isSound_243 rfl (lv_at hl 3 rfl) ?_
                                    refine lv_iload Ex Eb dL_isSound_244 (lv_at hl 7 rfl) ?_
                                    refine lw_cL (rest := []) E hK hV hw (kL_installment l X kS D (zUA Z t70) ix hPI hin) (vx_cwSW 2 E.2.2.2.2 gL_isSound_L_installment rfl rfl rfl (by decide +kernel) ⟨Nat.le_of_ble_eq_true rfl, Nat.le_of_ble_eq_true rfl⟩) hl.1 rfl rfl (Nat.le_of_ble_eq_true rfl) dL_isSound_246 ⟨Nat.le_of_ble_eq_true rfl, Nat.le_of_ble_eq_true rfl⟩ (fun t72 H locs _ hw => ?_)
                                    have hw : lo_Wd X ((wC X D (zUA Z t72))) A9 s9.heap H locs := hw
                                    refine W.eq (g2 := F0 m9 249 ls [.int (iI (PL (zP Z) ix.toNat 4))]) rfl ?_
                                    refine lv_iconst (v := iI 1) Ex Eb dL_isSound_249 rfl ?_
                                    refine lo_icmp_lt (tgt := 278) E dL_isSound_250 (by decide) (by omega) (by omega) (fun c73 => ?_) (fun c73 => ?_)
                                    · exact absurd c73 (by omega)
                                    · skip
                                      refine lv_aload_n Ex Eb dL_isSound_253 rfl (lv_at hl 3 rfl) ?_
                                      refine lv_iload Ex Eb dL_isSound_254 (lv_at hl 7 rfl) ?_
                                      refine lw_cL (rest := []) E hK hV hw (kL_lastDue l X kS D (zUA Z t72) ix hPI hin) (vx_cwSW 2 E.2.2.2.2 gL_isSound_L_lastDue rfl rfl rfl (by decide +kernel) ⟨Nat.le_of_ble_eq_true rfl, Nat.le_of_ble_eq_true rfl⟩) hl.1 rfl rfl (Nat.le_of_ble_eq_true rfl) dL_isSound_256 ⟨Nat.le_of_ble_eq_true rfl, Nat.le_of_ble_eq_true rfl⟩ (fun t74 H locs _ hw => ?_)
                                      have hw : lo_Wd X ((wC X D (zUA Z t74))) A9 s9.heap H locs := hw
                                      refine W.eq (g2 := F0 m9 259 ls [.int (iI (lastL 120 (PL (zP Z) ix.toNat) 0))]) rfl ?_
                                      refine lv_aload_n Ex Eb dL_isSound_259 rfl (lv_at hl 3 rfl) ?_
                                      refine lv_iload Ex Eb dL_isSound_260 (lv_at hl 7 rfl) ?_
                                      refine lw_cL (rest := [.int (iI (lastL 120 (PL (zP Z) ix.toNat) 0))]) E hK hV hw (kL_installment l X kS D (zUA Z t74) ix hPI hin) (vx_cwSW 2 E.2.2.2.2 gL_isSound_L_installment rfl rfl rfl (by decide +kernel) ⟨Nat.le_of_ble_eq_true rfl, Nat.le_of_ble_eq_true rfl⟩) hl.1 rfl rfl (Nat.le_of_ble_eq_true rfl) dL_isSound_262 ⟨Nat.le_of_ble_eq_true rfl, Nat.le_of_ble_eq_true rfl⟩ (fun t75 H locs _ hw => ?_)
                                      have hw : lo_Wd X ((wC X D (zUA Z t75))) A9 s9.heap H locs := hw
                                      refine W.eq (g2 := F0 m9 265 ls [.int (iI (PL (zP Z) ix.toNat 4)), .int (iI (lastL 120 (PL (zP Z) ix.toNat) 0))]) rfl ?_
                                      refine lo_icmp_gt (tgt := 278) E dL_isSound_265 (by decide) (by omega) (by omega) (fun c76 => ?_) (fun c76 => ?_)
                                      · exact absurd c76 (by omega)
                                      · skip
                                        refine lv_aload_n Ex Eb dL_isSound_268 rfl (lv_at hl 3 rfl) ?_
                                        refine lv_iload Ex Eb dL_isSound_269 (lv_at hl 7 rfl) ?_
                                        refine lw_cL (rest := []) E hK hV hw (kL_lastDue l X kS D (zUA Z t75) ix hPI hin) (vx_cwSW 2 E.2.2.2.2 gL_isSound_L_lastDue rfl rfl rfl (by decide +kernel) ⟨Nat.le_of_ble_eq_true rfl, Nat.le_of_ble_eq_true rfl⟩) hl.1 rfl rfl (Nat.le_of_ble_eq_true rfl) dL_isSound_271 ⟨Nat.le_of_ble_eq_true rfl, Nat.le_of_ble_eq_true rfl⟩ (fun t77 H locs _ hw => ?_)
                                        have hw : lo_Wd X ((wC X D (zUA Z t77))) A9 s9.heap H locs := hw
                                        refine W.eq (g2 := F0 m9 274 ls [.int (iI (lastL 120 (PL (zP Z) ix.toNat) 0))]) rfl ?_
                                        refine lv_iconst (v := iI 1) Ex Eb dL_isSound_274 rfl ?_
                                        refine lo_icmp_ge (tgt := 280) E dL_isSound_275 (by decide) (by omega) (by omega) (fun c78 => ?_) (fun c78 => ?_)
                                        · skip
                                          refine lv_iload Ex Eb dL_isSound_280 (lv_at hl 2 rfl) ?_
                                          refine lo_i2l E dL_isSound_282 (by omega) ?_
                                          refine lv_aload_n Ex Eb dL_isSound_283 rfl (lv_at hl 3 rfl) ?_
                                          refine lv_iload Ex Eb dL_isSound_284 (lv_at hl 7 rfl) ?_
                                          refine lw_cL (rest := [.long (iL (PL (zP Z) ix.toNat 1))]) E hK hV hw (kL_rate l X kS D (zUA Z t77) ix hPI hin) (vx_cwSW 2 E.2.2.2.2 gL_isSound_L_rate rfl rfl rfl (by decide +kernel) ⟨Nat.le_of_ble_eq_true rfl, Nat.le_of_ble_eq_true rfl⟩) hl.1 rfl rfl (Nat.le_of_ble_eq_true rfl) dL_isSound_286 ⟨Nat.le_of_ble_eq_true rfl, Nat.le_of_ble_eq_true rfl⟩ (fun t79 H locs _ hw => ?_)
                                          have hw : lo_Wd X ((wC X D (zUA Z t79))) A9 s9.heap H locs := hw
                                          refine W.eq (g2 := F0 m9 289 ls [.int (iI (PL (zP Z) ix.toNat 2)), .long (iL (PL (zP Z) ix.toNat 1))]) rfl ?_
                                          refine lo_i2l E dL_isSound_289 (by omega) ?_
                                          refine lo_lmul E dL_isSound_290 ?_
                                          refine lv_aload_n Ex Eb dL_isSound_291 rfl (lv_at hl 3 rfl) ?_
                                          refine lv_iload Ex Eb dL_isSound_292 (lv_at hl 7 rfl) ?_
                                          refine lw_cL (rest := [.long (iL (PL (zP Z) ix.toNat 1 * PL (zP Z) ix.toNat 2))]) E hK hV hw (kL_carry l X kS D (zUA Z t79) ix hPI hin) (vx_cwSW 2 E.2.2.2.2 gL_isSound_L_carry rfl rfl rfl (by decide +kernel) ⟨Nat.le_of_ble_eq_true rfl, Nat.le_of_ble_eq_true rfl⟩) hl.1 rfl rfl (Nat.le_of_ble_eq_true rfl) dL_isSound_294 ⟨Nat.le_of_ble_eq_true rfl, Nat.le_of_ble_eq_true rfl⟩ (fun t80 H locs _ hw => ?_)
                                          have hw : lo_Wd X ((wC X D (zUA Z t80))) A9 s9.heap H locs := hw
                                          refine W.eq (g2 := F0 m9 297 ls [.int (iI (PL (zP Z) ix.toNat 5)), .long (iL (PL (zP Z) ix.toNat 1 * PL (zP Z) ix.toNat 2))]) rfl ?_
                                          refine lo_i2l E dL_isSound_297 (by omega) ?_
                                          refine lo_ladd E dL_isSound_298 ?_
                                          refine lv_lstore (lv' := [(8, .long (iL ((PL (zP Z) ix.toNat 1 * PL (zP Z) ix.toNat 2) + PL (zP Z) ix.toNat 5))), (1, .int (iI (op + 1))), (7, .int (iI (opz (PL (zP Z) ix.toNat)))), (6, .int (iI (PL (zP Z) ix.toNat 1))), (0, .ref (D.1 0)), (2, .int (iI ba)), (3, .int (iI du)), (4, .int (iI ah)), (5, .int (iI ix))]) Ex Eb dL_isSound_299 hl (by decide) rfl (fun ls hl => ?_)
                                          refine lv_aload_n Ex Eb dL_isSound_301 rfl (lv_at hl 4 rfl) ?_
                                          refine lv_iload Ex Eb dL_isSound_302 (lv_at hl 8 rfl) ?_
                                          refine lw_cL (rest := []) E hK hV hw (kL_interestDue l X kS D (zUA Z t80) ix hPI hin) (vx_cwSW 2 E.2.2.2.2 gL_isSound_L_interestDue rfl rfl rfl (by decide +kernel) ⟨Nat.le_of_ble_eq_true rfl, Nat.le_of_ble_eq_true rfl⟩) hl.1 rfl rfl (Nat.le_of_ble_eq_true rfl) dL_isSound_304 ⟨Nat.le_of_ble_eq_true rfl, Nat.le_of_ble_eq_true rfl⟩ (fun t81 H locs _ hw => ?_)
                                          have hw : lo_Wd X ((wC X D (zUA Z t81))) A9 s9.heap H locs := hw
                                          refine W.eq (g2 := F0 m9 307 ls [.int (iI (fI (PL (zP Z) ix.toNat 1) (PL (zP Z) ix.toNat 2) (PL (zP Z) ix.toNat 5)))]) rfl ?_
                                          refine lo_i2l E dL_isSound_307 (by omega) ?_
                                          refine lv_lload Ex Eb dL_isSound_308 (lv_at hl 0 rfl) ?_
                                          refine lo_ldc2 (z := 120000) E hc228 dL_isSound_310 rfl ?_
                                          refine lo_ldiv E dL_isSound_313 (by omega) (by omega) ?_
                                          refine lo_lcmp E dL_isSound_314 (by omega) (by omega) (fun zc82 rzc82 dzc82 => ?_)
                                          refine lo_if_eq (tgt := 320) E dL_isSound_315 (by decide) (by omega) (fun c83 => ?_) (fun c83 => ?_)
                                          · skip
                                            refine lv_iload Ex Eb dL_isSound_320 (lv_at hl 3 rfl) ?_
                                            refine lv_aload_n Ex Eb dL_isSound_322 rfl (lv_at hl 4 rfl) ?_
                                            refine lv_iload Ex Eb dL_isSound_323 (lv_at hl 8 rfl) ?_
                                            refine lw_cL (rest := [.int (iI (PL (zP Z) ix.toNat 1))]) E hK hV hw (kL_interestDue l X kS D (zUA Z t81) ix hPI hin) (vx_cwSW 2 E.2.2.2.2 gL_isSound_L_interestDue rfl rfl rfl (by decide +kernel) ⟨Nat.le_of_ble_eq_true rfl, Nat.le_of_ble_eq_true rfl⟩) hl.1 rfl rfl (Nat.le_of_ble_eq_true rfl) dL_isSound_325 ⟨Nat.le_of_ble_eq_true rfl, Nat.le_of_ble_eq_true rfl⟩ (fun t84 H locs _ hw => ?_)
                                            have hw : lo_Wd X ((wC X D (zUA Z t84))) A9 s9.heap H locs := hw
                                            refine W.eq (g2 := F0 m9 328 ls [.int (iI (fI (PL (zP Z) ix.toNat 1) (PL (zP Z) ix.toNat 2) (PL (zP Z) ix.toNat 5))), .int (iI (PL (zP Z) ix.toNat 1))]) rfl ?_
                                            refine lo_iadd E dL_isSound_328 ?_
                                            refine lv_istore (lv' := [(10, .int (iI (PL (zP Z) ix.toNat 1 + fI (PL (zP Z) ix.toNat 1) (PL (zP Z) ix.toNat 2) (PL (zP Z) ix.toNat 5)))), (8, .long (iL ((PL (zP Z) ix.toNat 1 * PL (zP Z) ix.toNat 2) + PL (zP Z) ix.toNat 5))), (1, .int (iI (op + 1))), (7, .int (iI (opz (PL (zP Z) ix.toNat)))), (6, .int (iI (PL (zP Z) ix.toNat 1))), (0, .ref (D.1 0)), (2, .int (iI ba)), (3, .int (iI du)), (4, .int (iI ah)), (5, .int (iI ix))]) Ex Eb dL_isSound_329 hl (by decide) rfl (fun ls hl => ?_)
                                            refine lv_aload_n Ex Eb dL_isSound_331 rfl (lv_at hl 5 rfl) ?_
                                            refine lv_iload Ex Eb dL_isSound_332 (lv_at hl 9 rfl) ?_
                                            refine lw_cL (rest := []) E hK hV hw (kL_amountDue l X kS D (zUA Z t84) ix hPI hin) (vx_cwSW 2 E.2.2.2.2 gL_isSound_L_amountDue rfl rfl rfl (by decide +kernel) ⟨Nat.le_of_ble_eq_true rfl, Nat.le_of_ble_eq_true rfl⟩) hl.1 rfl rfl (Nat.le_of_ble_eq_true rfl) dL_isSound_334 ⟨Nat.le_of_ble_eq_true rfl, Nat.le_of_ble_eq_true rfl⟩ (fun t85 H locs _ hw => ?_)
                                            have hw : lo_Wd X ((wC X D (zUA Z t85))) A9 s9.heap H locs := hw
                                            refine W.eq (g2 := F0 m9 337 ls [.int (iI (dueL (PL (zP Z) ix.toNat)))]) rfl ?_
                                            refine lv_iload Ex Eb dL_isSound_337 (lv_at hl 0 rfl) ?_
                                            refine lv_aload_n Ex Eb dL_isSound_339 rfl (lv_at hl 5 rfl) ?_
                                            refine lv_iload Ex Eb dL_isSound_340 (lv_at hl 9 rfl) ?_
                                            refine lw_cL (rest := [.int (iI (PL (zP Z) ix.toNat 1 + fI (PL (zP Z) ix.toNat 1) (PL (zP Z) ix.toNat 2) (PL (zP Z) ix.toNat 5))), .int (iI (dueL (PL (zP Z) ix.toNat)))]) E hK hV hw (kL_installment l X kS D (zUA Z t85) ix hPI hin) (vx_cwSW 2 E.2.2.2.2 gL_isSound_L_installment rfl rfl rfl (by decide +kernel) ⟨Nat.le_of_ble_eq_true rfl, Nat.le_of_ble_eq_true rfl⟩) hl.1 rfl rfl (Nat.le_of_ble_eq_true rfl) dL_isSound_342 ⟨Nat.le_of_ble_eq_true rfl, Nat.le_of_ble_eq_true rfl⟩ (fun t86 H locs _ hw => ?_)
                                            have hw : lo_Wd X ((wC X D (zUA Z t86))) A9 s9.heap H locs := hw
                                            refine W.eq (g2 := F0 m9 345 ls [.int (iI (PL (zP Z) ix.toNat 4)), .int (iI (PL (zP Z) ix.toNat 1 + fI (PL (zP Z) ix.toNat 1) (PL (zP Z) ix.toNat 2) (PL (zP Z) ix.toNat 5))), .int (iI (dueL (PL (zP Z) ix.toNat)))]) rfl ?_
                                            refine lo_icmp_le (tgt := 358) E dL_isSound_345 (by decide) (by omega) (by omega) (fun c87 => ?_) (fun c87 => ?_)
                                            · skip
                                              refine lv_iload Ex Eb dL_isSound_358 (lv_at hl 0 rfl) ?_
                                              refine lv_goto (tgt := 369) Ex Eb dL_isSound_360 (by decide) ?_
                                              refine lo_icmp_eq (tgt := 374) E dL_isSound_369 (by decide) (by omega) (by omega) (fun c88 => ?_) (fun c88 => ?_)
                                              · skip
                                                refine lv_iload_n Ex Eb dL_isSound_374 rfl (lv_at hl 6 rfl) ?_
                                                refine lv_iload Ex Eb dL_isSound_375 (lv_at hl 4 rfl) ?_
                                                refine lo_iadd E dL_isSound_377 ?_
                                                refine lv_istore_n (lv' := [(2, .int (iI (ba + PL (zP Z) ix.toNat 1))), (10, .int (iI (PL (zP Z) ix.toNat 1 + fI (PL (zP Z) ix.toNat 1) (PL (zP Z) ix.toNat 2) (PL (zP Z) ix.toNat 5)))), (8, .long (iL ((PL (zP Z) ix.toNat 1 * PL (zP Z) ix.toNat 2) + PL (zP Z) ix.toNat 5))), (1, .int (iI (op + 1))), (7, .int (iI (opz (PL (zP Z) ix.toNat)))), (6, .int (iI (PL (zP Z) ix.toNat 1))), (0, .ref (D.1 0)), (3, .int (iI du)), (4, .int (iI ah)), (5, .int (iI ix))]) Ex Eb dL_isSound_378 rfl hl (by decide) rfl (fun ls hl => ?_)
                                                refine lv_iload_n Ex Eb dL_isSound_379 rfl (lv_at hl 7 rfl) ?_
                                                refine lv_aload_n Ex Eb dL_isSound_380 rfl (lv_at hl 6 rfl) ?_
                                                refine lv_iload Ex Eb dL_isSound_381 (lv_at hl 9 rfl) ?_
                                                refine lw_cL (rest := [.int (iI du)]) E hK hV hw (kL_amountDue l X kS D (zUA Z t86) ix hPI hin) (vx_cwSW 2 E.2.2.2.2 gL_isSound_L_amountDue rfl rfl rfl (by decide +kernel) ⟨Nat.le_of_ble_eq_true rfl, Nat.le_of_ble_eq_true rfl⟩) hl.1 rfl rfl (Nat.le_of_ble_eq_true rfl) dL_isSound_383 ⟨Nat.le_of_ble_eq_true rfl, Nat.le_of_ble_eq_true rfl⟩ (fun t89 H locs _ hw => ?_)
                                                have hw : lo_Wd X ((wC X D (zUA Z t89))) A9 s9.heap H locs := hw
                                                refine W.eq (g2 := F0 m9 386 ls [.int (iI (dueL (PL (zP Z) ix.toNat))), .int (iI du)]) rfl ?_
                                                refine lo_iadd E dL_isSound_386 ?_
                                                refine lv_istore_n (lv' := [(3, .int (iI (du + dueL (PL (zP Z) ix.toNat)))), (2, .int (iI (ba + PL (zP Z) ix.toNat 1))), (10, .int (iI (PL (zP Z) ix.toNat 1 + fI (PL (zP Z) ix.toNat 1) (PL (zP Z) ix.toNat 2) (PL (zP Z) ix.toNat 5)))), (8, .long (iL ((PL (zP Z) ix.toNat 1 * PL (zP Z) ix.toNat 2) + PL (zP Z) ix.toNat 5))), (1, .int (iI (op + 1))), (7, .int (iI (opz (PL (zP Z) ix.toNat)))), (6, .int (iI (PL (zP Z) ix.toNat 1))), (0, .ref (D.1 0)), (4, .int (iI ah)), (5, .int (iI ix))]) Ex Eb dL_isSound_387 rfl hl (by decide) rfl (fun ls hl => ?_)
                                                refine lv_iload Ex Eb dL_isSound_388 (lv_at hl 8 rfl) ?_
                                                refine lv_aload_n Ex Eb dL_isSound_390 rfl (lv_at hl 7 rfl) ?_
                                                refine lv_iload Ex Eb dL_isSound_391 (lv_at hl 9 rfl) ?_
                                                refine lw_cL (rest := [.int (iI ah)]) E hK hV hw (kL_interestAhead l X kS D (zUA Z t89) ix hPI hin) (vx_cwSW 2 E.2.2.2.2 gL_isSound_L_interestAhead rfl rfl rfl (by decide +kernel) ⟨Nat.le_of_ble_eq_true rfl, Nat.le_of_ble_eq_true rfl⟩) hl.1 rfl rfl (Nat.le_of_ble_eq_true rfl) dL_isSound_393 ⟨Nat.le_of_ble_eq_true rfl, Nat.le_of_ble_eq_true rfl⟩ (fun t90 H locs _ hw => ?_)
                                                have hw : lo_Wd X ((wC X D (zUA Z t90))) A9 s9.heap H locs := hw
                                                refine W.eq (g2 := F0 m9 396 ls [.int (iI (runL 120 (PL (zP Z) ix.toNat) 6 - PL (zP Z) ix.toNat 6)), .int (iI ah)]) rfl ?_
                                                refine lo_iadd E dL_isSound_396 ?_
                                                refine lv_istore (lv' := [(4, .int (iI (ah + (runL 120 (PL (zP Z) ix.toNat) 6 - PL (zP Z) ix.toNat 6)))), (3, .int (iI (du + dueL (PL (zP Z) ix.toNat)))), (2, .int (iI (ba + PL (zP Z) ix.toNat 1))), (10, .int (iI (PL (zP Z) ix.toNat 1 + fI (PL (zP Z) ix.toNat 1) (PL (zP Z) ix.toNat 2) (PL (zP Z) ix.toNat 5)))), (8, .long (iL ((PL (zP Z) ix.toNat 1 * PL (zP Z) ix.toNat 2) + PL (zP Z) ix.toNat 5))), (1, .int (iI (op + 1))), (7, .int (iI (opz (PL (zP Z) ix.toNat)))), (6, .int (iI (PL (zP Z) ix.toNat 1))), (0, .ref (D.1 0)), (5, .int (iI ix))]) Ex Eb dL_isSound_397 hl (by decide) rfl (fun ls hl => ?_)
                                                refine lo_iinc (lv' := [(5, .int (iI (ix + 1))), (4, .int (iI (ah + (runL 120 (PL (zP Z) ix.toNat) 6 - PL (zP Z) ix.toNat 6)))), (3, .int (iI (du + dueL (PL (zP Z) ix.toNat)))), (2, .int (iI (ba + PL (zP Z) ix.toNat 1))), (10, .int (iI (PL (zP Z) ix.toNat 1 + fI (PL (zP Z) ix.toNat 1) (PL (zP Z) ix.toNat 2) (PL (zP Z) ix.toNat 5)))), (8, .long (iL ((PL (zP Z) ix.toNat 1 * PL (zP Z) ix.toNat 2) + PL (zP Z) ix.toNat 5))), (1, .int (iI (op + 1))), (7, .int (iI (opz (PL (zP Z) ix.toNat)))), (6, .int (iI (PL (zP Z) ix.toNat 1))), (0, .ref (D.1 0))]) E dL_isSound_399 hl (k := 9) rfl (by decide) rfl (fun ls hl => ?_)
                                                refine lv_goto (tgt := 21) Ex Eb dL_isSound_402 (by decide) ?_
                                                exact ih21 t90 (op + 1) (ba + PL (zP Z) ix.toNat 1) (du + dueL (PL (zP Z) ix.toNat)) (ah + (runL 120 (PL (zP Z) ix.toNat) 6 - PL (zP Z) ix.toNat 6)) (ix + 1) (by omega) (by omega) (by first | (rw [cnt_y (by omega) (by omega)]; omega) | (rw [cnt_n (by omega) (by omega)]; omega)) (by have e9 := sumF_s (f := (fun i => PL (zP Z) i 1)) (i := ix) (by omega); omega) (by have e9 := sumF_s (f := (fun i => dueL (PL (zP Z) i))) (i := ix) (by omega); omega) (by have e9 := sumF_s (f := (fun k => runL 120 (PL (zP Z) k) 6 - PL (zP Z) k 6)) (i := ix) (by omega); omega) _ _ _ hw (lv_sub hl [9, 6, 3, 2, 1, 0] rfl)
                                              · exact absurd c88 (by omega)
                                            · skip
                                              refine lv_aload_n Ex Eb dL_isSound_348 rfl (lv_at hl 5 rfl) ?_
                                              refine lv_iload Ex Eb dL_isSound_349 (lv_at hl 9 rfl) ?_
                                              refine lw_cL (rest := [.int (iI (dueL (PL (zP Z) ix.toNat)))]) E hK hV hw (kL_monthsLeft l X kS D (zUA Z t86) ix hPI hin) (vx_cwSW 2 E.2.2.2.2 gL_isSound_L_monthsLeft rfl rfl rfl (by decide +kernel) ⟨Nat.le_of_ble_eq_true rfl, Nat.le_of_ble_eq_true rfl⟩) hl.1 rfl rfl (Nat.le_of_ble_eq_true rfl) dL_isSound_351 ⟨Nat.le_of_ble_eq_true rfl, Nat.le_of_ble_eq_true rfl⟩ (fun t91 H locs _ hw => ?_)
                                              have hw : lo_Wd X ((wC X D (zUA Z t91))) A9 s9.heap H locs := hw
                                              refine W.eq (g2 := F0 m9 354 ls [.int (iI (PL (zP Z) ix.toNat 3)), .int (iI (dueL (PL (zP Z) ix.toNat)))]) rfl ?_
                                              refine lv_iconst (v := iI 1) Ex Eb dL_isSound_354 rfl ?_
                                              refine lo_icmp_ne (tgt := 363) E dL_isSound_355 (by decide) (by omega) (by omega) (fun c92 => ?_) (fun c92 => ?_)
                                              · skip
                                                refine lv_aload_n Ex Eb dL_isSound_363 rfl (lv_at hl 5 rfl) ?_
                                                refine lv_iload Ex Eb dL_isSound_364 (lv_at hl 9 rfl) ?_
                                                refine lw_cL (rest := [.int (iI (dueL (PL (zP Z) ix.toNat)))]) E hK hV hw (kL_installment l X kS D (zUA Z t91) ix hPI hin) (vx_cwSW 2 E.2.2.2.2 gL_isSound_L_installment rfl rfl rfl (by decide +kernel) ⟨Nat.le_of_ble_eq_true rfl, Nat.le_of_ble_eq_true rfl⟩) hl.1 rfl rfl (Nat.le_of_ble_eq_true rfl) dL_isSound_366 ⟨Nat.le_of_ble_eq_true rfl, Nat.le_of_ble_eq_true rfl⟩ (fun t93 H locs _ hw => ?_)
                                                have hw : lo_Wd X ((wC X D (zUA Z t93))) A9 s9.heap H locs := hw
                                                refine W.eq (g2 := F0 m9 369 ls [.int (iI (PL (zP Z) ix.toNat 4)), .int (iI (dueL (PL (zP Z) ix.toNat)))]) rfl ?_
                                                refine lo_icmp_eq (tgt := 374) E dL_isSound_369 (by decide) (by omega) (by omega) (fun c94 => ?_) (fun c94 => ?_)
                                                · skip
                                                  refine lv_iload_n Ex Eb dL_isSound_374 rfl (lv_at hl 6 rfl) ?_
                                                  refine lv_iload Ex Eb dL_isSound_375 (lv_at hl 4 rfl) ?_
                                                  refine lo_iadd E dL_isSound_377 ?_
                                                  refine lv_istore_n (lv' := [(2, .int (iI (ba + PL (zP Z) ix.toNat 1))), (10, .int (iI (PL (zP Z) ix.toNat 1 + fI (PL (zP Z) ix.toNat 1) (PL (zP Z) ix.toNat 2) (PL (zP Z) ix.toNat 5)))), (8, .long (iL ((PL (zP Z) ix.toNat 1 * PL (zP Z) ix.toNat 2) + PL (zP Z) ix.toNat 5))), (1, .int (iI (op + 1))), (7, .int (iI (opz (PL (zP Z) ix.toNat)))), (6, .int (iI (PL (zP Z) ix.toNat 1))), (0, .ref (D.1 0)), (3, .int (iI du)), (4, .int (iI ah)), (5, .int (iI ix))]) Ex Eb dL_isSound_378 rfl hl (by decide) rfl (fun ls hl => ?_)
                                                  refine lv_iload_n Ex Eb dL_isSound_379 rfl (lv_at hl 7 rfl) ?_
                                                  refine lv_aload_n Ex Eb dL_isSound_380 rfl (lv_at hl 6 rfl) ?_
                                                  refine lv_iload Ex Eb dL_isSound_381 (lv_at hl 9 rfl) ?_
                                                  refine lw_cL (rest := [.int (iI du)]) E hK hV hw (kL_amountDue l X kS D (zUA Z t93) ix hPI hin) (vx_cwSW 2 E.2.2.2.2 gL_isSound_L_amountDue rfl rfl rfl (by decide +kernel) ⟨Nat.le_of_ble_eq_true rfl, Nat.le_of_ble_eq_true rfl⟩) hl.1 rfl rfl (Nat.le_of_ble_eq_true rfl) dL_isSound_383 ⟨Nat.le_of_ble_eq_true rfl, Nat.le_of_ble_eq_true rfl⟩ (fun t95 H locs _ hw => ?_)
                                                  have hw : lo_Wd X ((wC X D (zUA Z t95))) A9 s9.heap H locs := hw
                                                  refine W.eq (g2 := F0 m9 386 ls [.int (iI (dueL (PL (zP Z) ix.toNat))), .int (iI du)]) rfl ?_
                                                  refine lo_iadd E dL_isSound_386 ?_
                                                  refine lv_istore_n (lv' := [(3, .int (iI (du + dueL (PL (zP Z) ix.toNat)))), (2, .int (iI (ba + PL (zP Z) ix.toNat 1))), (10, .int (iI (PL (zP Z) ix.toNat 1 + fI (PL (zP Z) ix.toNat 1) (PL (zP Z) ix.toNat 2) (PL (zP Z) ix.toNat 5)))), (8, .long (iL ((PL (zP Z) ix.toNat 1 * PL (zP Z) ix.toNat 2) + PL (zP Z) ix.toNat 5))), (1, .int (iI (op + 1))), (7, .int (iI (opz (PL (zP Z) ix.toNat)))), (6, .int (iI (PL (zP Z) ix.toNat 1))), (0, .ref (D.1 0)), (4, .int (iI ah)), (5, .int (iI ix))]) Ex Eb dL_isSound_387 rfl hl (by decide) rfl (fun ls hl => ?_)
                                                  refine lv_iload Ex Eb dL_isSound_388 (lv_at hl 8 rfl) ?_
                                                  refine lv_aload_n Ex Eb dL_isSound_390 rfl (lv_at hl 7 rfl) ?_
                                                  refine lv_iload Ex Eb dL_isSound_391 (lv_at hl 9 rfl) ?_
                                                  refine lw_cL (rest := [.int (iI ah)]) E hK hV hw (kL_interestAhead l X kS D (zUA Z t95) ix hPI hin) (vx_cwSW 2 E.2.2.2.2 gL_isSound_L_interestAhead rfl rfl rfl (by decide +kernel) ⟨Nat.le_of_ble_eq_true rfl, Nat.le_of_ble_eq_true rfl⟩) hl.1 rfl rfl (Nat.le_of_ble_eq_true rfl) dL_isSound_393 ⟨Nat.le_of_ble_eq_true rfl, Nat.le_of_ble_eq_true rfl⟩ (fun t96 H locs _ hw => ?_)
                                                  have hw : lo_Wd X ((wC X D (zUA Z t96))) A9 s9.heap H locs := hw
                                                  refine W.eq (g2 := F0 m9 396 ls [.int (iI (runL 120 (PL (zP Z) ix.toNat) 6 - PL (zP Z) ix.toNat 6)), .int (iI ah)]) rfl ?_
                                                  refine lo_iadd E dL_isSound_396 ?_
                                                  refine lv_istore (lv' := [(4, .int (iI (ah + (runL 120 (PL (zP Z) ix.toNat) 6 - PL (zP Z) ix.toNat 6)))), (3, .int (iI (du + dueL (PL (zP Z) ix.toNat)))), (2, .int (iI (ba + PL (zP Z) ix.toNat 1))), (10, .int (iI (PL (zP Z) ix.toNat 1 + fI (PL (zP Z) ix.toNat 1) (PL (zP Z) ix.toNat 2) (PL (zP Z) ix.toNat 5)))), (8, .long (iL ((PL (zP Z) ix.toNat 1 * PL (zP Z) ix.toNat 2) + PL (zP Z) ix.toNat 5))), (1, .int (iI (op + 1))), (7, .int (iI (opz (PL (zP Z) ix.toNat)))), (6, .int (iI (PL (zP Z) ix.toNat 1))), (0, .ref (D.1 0)), (5, .int (iI ix))]) Ex Eb dL_isSound_397 hl (by decide) rfl (fun ls hl => ?_)
                                                  refine lo_iinc (lv' := [(5, .int (iI (ix + 1))), (4, .int (iI (ah + (runL 120 (PL (zP Z) ix.toNat) 6 - PL (zP Z) ix.toNat 6)))), (3, .int (iI (du + dueL (PL (zP Z) ix.toNat)))), (2, .int (iI (ba + PL (zP Z) ix.toNat 1))), (10, .int (iI (PL (zP Z) ix.toNat 1 + fI (PL (zP Z) ix.toNat 1) (PL (zP Z) ix.toNat 2) (PL (zP Z) ix.toNat 5)))), (8, .long (iL ((PL (zP Z) ix.toNat 1 * PL (zP Z) ix.toNat 2) + PL (zP Z) ix.toNat 5))), (1, .int (iI (op + 1))), (7, .int (iI (opz (PL (zP Z) ix.toNat)))), (6, .int (iI (PL (zP Z) ix.toNat 1))), (0, .ref (D.1 0))]) E dL_isSound_399 hl (k := 9) rfl (by decide) rfl (fun ls hl => ?_)
                                                  refine lv_goto (tgt := 21) Ex Eb dL_isSound_402 (by decide) ?_
                                                  exact ih21 t96 (op + 1) (ba + PL (zP Z) ix.toNat 1) (du + dueL (PL (zP Z) ix.toNat)) (ah + (runL 120 (PL (zP Z) ix.toNat) 6 - PL (zP Z) ix.toNat 6)) (ix + 1) (by omega) (by omega) (by first | (rw [cnt_y (by omega) (by omega)]; omega) | (rw [cnt_n (by omega) (by omega)]; omega)) (by have e9 := sumF_s (f := (fun i => PL (zP Z) i 1)) (i := ix) (by omega); omega) (by have e9 := sumF_s (f := (fun i => dueL (PL (zP Z) i))) (i := ix) (by omega); omega) (by have e9 := sumF_s (f := (fun k => runL 120 (PL (zP Z) k) 6 - PL (zP Z) k 6)) (i := ix) (by omega); omega) _ _ _ hw (lv_sub hl [9, 6, 3, 2, 1, 0] rfl)
                                                · exact absurd c94 (by omega)
                                              · skip
                                                refine lv_iload Ex Eb dL_isSound_358 (lv_at hl 0 rfl) ?_
                                                refine lv_goto (tgt := 369) Ex Eb dL_isSound_360 (by decide) ?_
                                                refine lo_icmp_eq (tgt := 374) E dL_isSound_369 (by decide) (by omega) (by omega) (fun c97 => ?_) (fun c97 => ?_)
                                                · skip
                                                  refine lv_iload_n Ex Eb dL_isSound_374 rfl (lv_at hl 6 rfl) ?_
                                                  refine lv_iload Ex Eb dL_isSound_375 (lv_at hl 4 rfl) ?_
                                                  refine lo_iadd E dL_isSound_377 ?_
                                                  refine lv_istore_n (lv' := [(2, .int (iI (ba + PL (zP Z) ix.toNat 1))), (10, .int (iI (PL (zP Z) ix.toNat 1 + fI (PL (zP Z) ix.toNat 1) (PL (zP Z) ix.toNat 2) (PL (zP Z) ix.toNat 5)))), (8, .long (iL ((PL (zP Z) ix.toNat 1 * PL (zP Z) ix.toNat 2) + PL (zP Z) ix.toNat 5))), (1, .int (iI (op + 1))), (7, .int (iI (opz (PL (zP Z) ix.toNat)))), (6, .int (iI (PL (zP Z) ix.toNat 1))), (0, .ref (D.1 0)), (3, .int (iI du)), (4, .int (iI ah)), (5, .int (iI ix))]) Ex Eb dL_isSound_378 rfl hl (by decide) rfl (fun ls hl => ?_)
                                                  refine lv_iload_n Ex Eb dL_isSound_379 rfl (lv_at hl 7 rfl) ?_
                                                  refine lv_aload_n Ex Eb dL_isSound_380 rfl (lv_at hl 6 rfl) ?_
                                                  refine lv_iload Ex Eb dL_isSound_381 (lv_at hl 9 rfl) ?_
                                                  refine lw_cL (rest := [.int (iI du)]) E hK hV hw (kL_amountDue l X kS D (zUA Z t91) ix hPI hin) (vx_cwSW 2 E.2.2.2.2 gL_isSound_L_amountDue rfl rfl rfl (by decide +kernel) ⟨Nat.le_of_ble_eq_true rfl, Nat.le_of_ble_eq_true rfl⟩) hl.1 rfl rfl (Nat.le_of_ble_eq_true rfl) dL_isSound_383 ⟨Nat.le_of_ble_eq_true rfl, Nat.le_of_ble_eq_true rfl⟩ (fun t98 H locs _ hw => ?_)
                                                  have hw : lo_Wd X ((wC X D (zUA Z t98))) A9 s9.heap H locs := hw
                                                  refine W.eq (g2 := F0 m9 386 ls [.int (iI (dueL (PL (zP Z) ix.toNat))), .int (iI du)]) rfl ?_
                                                  refine lo_iadd E dL_isSound_386 ?_
                                                  refine lv_istore_n (lv' := [(3, .int (iI (du + dueL (PL (zP Z) ix.toNat)))), (2, .int (iI (ba + PL (zP Z) ix.toNat 1))), (10, .int (iI (PL (zP Z) ix.toNat 1 + fI (PL (zP Z) ix.toNat 1) (PL (zP Z) ix.toNat 2) (PL (zP Z) ix.toNat 5)))), (8, .long (iL ((PL (zP Z) ix.toNat 1 * PL (zP Z) ix.toNat 2) + PL (zP Z) ix.toNat 5))), (1, .int (iI (op + 1))), (7, .int (iI (opz (PL (zP Z) ix.toNat)))), (6, .int (iI (PL (zP Z) ix.toNat 1))), (0, .ref (D.1 0)), (4, .int (iI ah)), (5, .int (iI ix))]) Ex Eb dL_isSound_387 rfl hl (by decide) rfl (fun ls hl => ?_)
                                                  refine lv_iload Ex Eb dL_isSound_388 (lv_at hl 8 rfl) ?_
                                                  refine lv_aload_n Ex Eb dL_isSound_390 rfl (lv_at hl 7 rfl) ?_
                                                  refine lv_iload Ex Eb dL_isSound_391 (lv_at hl 9 rfl) ?_
                                                  refine lw_cL (rest := [.int (iI ah)]) E hK hV hw (kL_interestAhead l X kS D (zUA Z t98) ix hPI hin) (vx_cwSW 2 E.2.2.2.2 gL_isSound_L_interestAhead rfl rfl rfl (by decide +kernel) ⟨Nat.le_of_ble_eq_true rfl, Nat.le_of_ble_eq_true rfl⟩) hl.1 rfl rfl (Nat.le_of_ble_eq_true rfl) dL_isSound_393 ⟨Nat.le_of_ble_eq_true rfl, Nat.le_of_ble_eq_true rfl⟩ (fun t99 H locs _ hw => ?_)
                                                  have hw : lo_Wd X ((wC X D (zUA Z t99))) A9 s9.heap H locs := hw
                                                  refine W.eq (g2 := F0 m9 396 ls [.int (iI (runL 120 (PL (zP Z) ix.toNat) 6 - PL (zP Z) ix.toNat 6)), .int (iI ah)]) rfl ?_
                                                  refine lo_iadd E dL_isSound_396 ?_
                                                  refine lv_istore (lv' := [(4, .int (iI (ah + (runL 120 (PL (zP Z) ix.toNat) 6 - PL (zP Z) ix.toNat 6)))), (3, .int (iI (du + dueL (PL (zP Z) ix.toNat)))), (2, .int (iI (ba + PL (zP Z) ix.toNat 1))), (10, .int (iI (PL (zP Z) ix.toNat 1 + fI (PL (zP Z) ix.toNat 1) (PL (zP Z) ix.toNat 2) (PL (zP Z) ix.toNat 5)))), (8, .long (iL ((PL (zP Z) ix.toNat 1 * PL (zP Z) ix.toNat 2) + PL (zP Z) ix.toNat 5))), (1, .int (iI (op + 1))), (7, .int (iI (opz (PL (zP Z) ix.toNat)))), (6, .int (iI (PL (zP Z) ix.toNat 1))), (0, .ref (D.1 0)), (5, .int (iI ix))]) Ex Eb dL_isSound_397 hl (by decide) rfl (fun ls hl => ?_)
                                                  refine lo_iinc (lv' := [(5, .int (iI (ix + 1))), (4, .int (iI (ah + (runL 120 (PL (zP Z) ix.toNat) 6 - PL (zP Z) ix.toNat 6)))), (3, .int (iI (du + dueL (PL (zP Z) ix.toNat)))), (2, .int (iI (ba + PL (zP Z) ix.toNat 1))), (10, .int (iI (PL (zP Z) ix.toNat 1 + fI (PL (zP Z) ix.toNat 1) (PL (zP Z) ix.toNat 2) (PL (zP Z) ix.toNat 5)))), (8, .long (iL ((PL (zP Z) ix.toNat 1 * PL (zP Z) ix.toNat 2) + PL (zP Z) ix.toNat 5))), (1, .int (iI (op + 1))), (7, .int (iI (opz (PL (zP Z) ix.toNat)))), (6, .int (iI (PL (zP Z) ix.toNat 1))), (0, .ref (D.1 0))]) E dL_isSound_399 hl (k := 9) rfl (by decide) rfl (fun ls hl => ?_)
                                                  refine lv_goto (tgt := 21) Ex Eb dL_isSound_402 (by decide) ?_
                                                  exact ih21 t99 (op + 1) (ba + PL (zP Z) ix.toNat 1) (du + dueL (PL (zP Z) ix.toNat)) (ah + (runL 120 (PL (zP Z) ix.toNat) 6 - PL (zP Z) ix.toNat 6)) (ix + 1) (by omega) (by omega) (by first | (rw [cnt_y (by omega) (by omega)]; omega) | (rw [cnt_n (by omega) (by omega)]; omega)) (by have e9 := sumF_s (f := (fun i => PL (zP Z) i 1)) (i := ix) (by omega); omega) (by have e9 := sumF_s (f := (fun i => dueL (PL (zP Z) i))) (i := ix) (by omega); omega) (by have e9 := sumF_s (f := (fun k => runL 120 (PL (zP Z) k) 6 - PL (zP Z) k 6)) (i := ix) (by omega); omega) _ _ _ hw (lv_sub hl [9, 6, 3, 2, 1, 0] rfl)
                                                · exact absurd c97 (by omega)
                                          · exfalso; omega
                                        · exact absurd c78 (by omega)
                            · exact absurd c66 (by omega)
                          · exact absurd c65 (by omega)
                · exact absurd c55 (by omega)
    exact lp21 _ t1 0 0 0 0 0 (Nat.lt_succ_self _) (by omega) (rfl) (rfl) (rfl) (rfl) _ _ _ hw (lv_sub hl [5, 4, 3, 2, 1, 0] rfl)
  · exact absurd c2 (by omega)
