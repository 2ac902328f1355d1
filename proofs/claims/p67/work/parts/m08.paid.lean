set_option maxHeartbeats 4000000 in
set_option maxRecDepth 100000 in
theorem kL_isPaid (l : Launch) (X : KX) (kS : Nat → Nat) (D : AD9) (Z : CZ) (A : Nat → Int) (i : Int) (hPI : PI (zP Z)) (hin : 0 ≤ i ∧ i < Pn (zP Z)) : CE l X kS yL_isPaid wsL_isPaid ({ frames := 9, cells := 0, slots := 0, locals := 167 }) [.ref (D.1 0), .int (iI i)] ((wC X D (zUA Z A))) (fun v9 w9 => ∃ A9 : Nat → Int, (True) ∧ v9 = some (.int (iI 1)) ∧ w9 = (wC X D (zUA Z A9))) 0 0 := by
  refine lo_enterE (cc := cL_isPaid) (maxL := 21) (ret := (some .boolean)) (lv := [(0, .ref (D.1 0)), (1, .int (iI i))]) (by decide) rfl rfl (Nat.le_of_ble_eq_true rfl) ?_
  intro p9 e9 s9 m9 bl9 me9 c9 A9 ls hAe E hRt hLk hK hl hw hV
  have Ex := E.1
  have Eb := E.2.1
  have hc228 : (Cond.constantLong RL 228 (120000)).before _ s9 = true := E.2.2.2.2 _ (List.mem_of_getElem? (i := 1) rfl)
  obtain ⟨hn0, hn1⟩ := hPI.1
  have hLi := hPI.2.2.2 i.toNat (by omega)
  obtain ⟨⟨hb0, hb1⟩, ⟨hr0, hr1⟩, ⟨hc0, hc1⟩, ⟨hm0, hm1⟩, ⟨hi0, hi1⟩, ⟨hs0, hs1, hs2⟩, hop, hcl⟩ := id hLi
  have hc3 : 0 ≤ PL (zP Z) i.toNat 5 ∧ PL (zP Z) i.toNat 5 < 120000 := by omega
  refine lv_aload_n Ex Eb dL_isPaid_0 rfl (lv_at hl 0 rfl) ?_
  refine lv_iload_n Ex Eb dL_isPaid_1 rfl (lv_at hl 1 rfl) ?_
  refine lw_cL (rest := []) E hK hV hw (kL_balance l X kS D (zUA Z A) i hPI hin) (vx_cwSW 2 E.2.2.2.2 gL_isPaid_L_balance rfl rfl rfl (by decide +kernel) ⟨Nat.le_of_ble_eq_true rfl, Nat.le_of_ble_eq_true rfl⟩) hl.1 rfl rfl (Nat.le_of_ble_eq_true rfl) dL_isPaid_2 ⟨Nat.le_of_ble_eq_true rfl, Nat.le_of_ble_eq_true rfl⟩ (fun t1 H locs _ hw => ?_)
  have hw : lo_Wd X ((wC X D (zUA Z t1))) A9 s9.heap H locs := hw
  refine W.eq (g2 := F0 m9 5 ls [.int (iI (PL (zP Z) i.toNat 1))]) rfl ?_
  refine lo_i2l E dL_isPaid_5 (by omega) ?_
  refine lv_lstore_n (lv' := [(2, .long (iL (PL (zP Z) i.toNat 1))), (0, .ref (D.1 0)), (1, .int (iI i))]) Ex Eb dL_isPaid_6 rfl hl (by decide) rfl (fun ls hl => ?_)
  refine lv_aload_n Ex Eb dL_isPaid_7 rfl (lv_at hl 1 rfl) ?_
  refine lv_iload_n Ex Eb dL_isPaid_8 rfl (lv_at hl 2 rfl) ?_
  refine lw_cL (rest := []) E hK hV hw (kL_carry l X kS D (zUA Z t1) i hPI hin) (vx_cwSW 2 E.2.2.2.2 gL_isPaid_L_carry rfl rfl rfl (by decide +kernel) ⟨Nat.le_of_ble_eq_true rfl, Nat.le_of_ble_eq_true rfl⟩) hl.1 rfl rfl (Nat.le_of_ble_eq_true rfl) dL_isPaid_9 ⟨Nat.le_of_ble_eq_true rfl, Nat.le_of_ble_eq_true rfl⟩ (fun t2 H locs _ hw => ?_)
  have hw : lo_Wd X ((wC X D (zUA Z t2))) A9 s9.heap H locs := hw
  refine W.eq (g2 := F0 m9 12 ls [.int (iI (PL (zP Z) i.toNat 5))]) rfl ?_
  refine lo_i2l E dL_isPaid_12 (by omega) ?_
  refine lv_lstore (lv' := [(4, .long (iL (PL (zP Z) i.toNat 5))), (2, .long (iL (PL (zP Z) i.toNat 1))), (0, .ref (D.1 0)), (1, .int (iI i))]) Ex Eb dL_isPaid_13 hl (by decide) rfl (fun ls hl => ?_)
  refine lv_lload Ex Eb dL_isPaid_15 (lv_at hl 0 rfl) ?_
  refine lv_lstore (lv' := [(6, .long (iL (PL (zP Z) i.toNat 5))), (4, .long (iL (PL (zP Z) i.toNat 5))), (2, .long (iL (PL (zP Z) i.toNat 1))), (0, .ref (D.1 0)), (1, .int (iI i))]) Ex Eb dL_isPaid_17 hl (by decide) rfl (fun ls hl => ?_)
  refine lv_lconst (v := iL 0) Ex Eb dL_isPaid_19 rfl ?_
  refine lv_lstore (lv' := [(8, .long (iL 0)), (6, .long (iL (PL (zP Z) i.toNat 5))), (4, .long (iL (PL (zP Z) i.toNat 5))), (2, .long (iL (PL (zP Z) i.toNat 1))), (0, .ref (D.1 0)), (1, .int (iI i))]) Ex Eb dL_isPaid_20 hl (by decide) rfl (fun ls hl => ?_)
  refine lv_iconst (v := iI 0) Ex Eb dL_isPaid_22 rfl ?_
  refine lv_istore (lv' := [(10, .int (iI 0)), (8, .long (iL 0)), (6, .long (iL (PL (zP Z) i.toNat 5))), (4, .long (iL (PL (zP Z) i.toNat 5))), (2, .long (iL (PL (zP Z) i.toNat 1))), (0, .ref (D.1 0)), (1, .int (iI i))]) Ex Eb dL_isPaid_23 hl (by decide) rfl (fun ls hl => ?_)
  refine lv_aload_n Ex Eb dL_isPaid_25 rfl (lv_at hl 5 rfl) ?_
  refine lv_iload_n Ex Eb dL_isPaid_26 rfl (lv_at hl 6 rfl) ?_
  refine lw_cL (rest := []) E hK hV hw (kL_monthsLeft l X kS D (zUA Z t2) i hPI hin) (vx_cwSW 2 E.2.2.2.2 gL_isPaid_L_monthsLeft rfl rfl rfl (by decide +kernel) ⟨Nat.le_of_ble_eq_true rfl, Nat.le_of_ble_eq_true rfl⟩) hl.1 rfl rfl (Nat.le_of_ble_eq_true rfl) dL_isPaid_27 ⟨Nat.le_of_ble_eq_true rfl, Nat.le_of_ble_eq_true rfl⟩ (fun t3 H locs _ hw => ?_)
  have hw : lo_Wd X ((wC X D (zUA Z t3))) A9 s9.heap H locs := hw
  refine W.eq (g2 := F0 m9 30 ls [.int (iI (PL (zP Z) i.toNat 3))]) rfl ?_
  refine lv_istore (lv' := [(11, .int (iI (PL (zP Z) i.toNat 3))), (10, .int (iI 0)), (8, .long (iL 0)), (6, .long (iL (PL (zP Z) i.toNat 5))), (4, .long (iL (PL (zP Z) i.toNat 5))), (2, .long (iL (PL (zP Z) i.toNat 1))), (0, .ref (D.1 0)), (1, .int (iI i))]) Ex Eb dL_isPaid_30 hl (by decide) rfl (fun ls hl => ?_)
  refine lv_aload_n Ex Eb dL_isPaid_32 rfl (lv_at hl 6 rfl) ?_
  refine lv_iload_n Ex Eb dL_isPaid_33 rfl (lv_at hl 7 rfl) ?_
  refine lw_cL (rest := []) E hK hV hw (kL_rate l X kS D (zUA Z t3) i hPI hin) (vx_cwSW 2 E.2.2.2.2 gL_isPaid_L_rate rfl rfl rfl (by decide +kernel) ⟨Nat.le_of_ble_eq_true rfl, Nat.le_of_ble_eq_true rfl⟩) hl.1 rfl rfl (Nat.le_of_ble_eq_true rfl) dL_isPaid_34 ⟨Nat.le_of_ble_eq_true rfl, Nat.le_of_ble_eq_true rfl⟩ (fun t4 H locs _ hw => ?_)
  have hw : lo_Wd X ((wC X D (zUA Z t4))) A9 s9.heap H locs := hw
  refine W.eq (g2 := F0 m9 37 ls [.int (iI (PL (zP Z) i.toNat 2))]) rfl ?_
  refine lv_istore (lv' := [(12, .int (iI (PL (zP Z) i.toNat 2))), (11, .int (iI (PL (zP Z) i.toNat 3))), (10, .int (iI 0)), (8, .long (iL 0)), (6, .long (iL (PL (zP Z) i.toNat 5))), (4, .long (iL (PL (zP Z) i.toNat 5))), (2, .long (iL (PL (zP Z) i.toNat 1))), (0, .ref (D.1 0)), (1, .int (iI i))]) Ex Eb dL_isPaid_37 hl (by decide) rfl (fun ls hl => ?_)
  have lp39 : ∀ (n : Nat) (B : Nat → Int) (b c x t ix : Int), (PL (zP Z) i.toNat 3 - ix).toNat < n → (0 ≤ ix ∧ ix ≤ PL (zP Z) i.toNat 3) → (WK (PL (zP Z) i.toNat) ix b c t) → (x = t * 120000 + c) → (0 ≤ b ∧ b ≤ 9999999) → (0 ≤ c ∧ c < 120000) → (0 ≤ t ∧ t ≤ 250001 * ix) → ∀ (H : Heap) (locs : List Loc) (ls : Array Slot), lo_Wd X ((wC X D (zUA Z B))) A9 s9.heap H locs → lv_has ls 21 [(0, .ref (D.1 0)), (1, .int (iI i)), (2, .long (iL b)), (4, .long (iL c)), (6, .long (iL x)), (8, .long (iL t)), (10, .int (iI ix)), (11, .int (iI (PL (zP Z) i.toNat 3))), (12, .int (iI (PL (zP Z) i.toNat 2)))] → W p9 l e9 ({ frames := 9, cells := 0, slots := 0, locals := 167 } : Room) s9 m9 ([.ref (D.1 0), .int (iI i)] : List Value).toArray bl9 me9 c9 H locs 0 0 (MQ bl9 (lo_Qc X ((wC X D (zUA Z A))) s9.heap.size (fun v9 w9 => ∃ A9 : Nat → Int, (True) ∧ v9 = some (.int (iI 1)) ∧ w9 = (wC X D (zUA Z A9)))) ([.ref (D.1 0), .int (iI i)] : List Value).toArray s9 0 0 A9) (F0 m9 39 ls []) := by
    intro n
    induction n with
    | zero => intro B b c x t ix hn; exact absurd hn (Nat.not_lt_zero _)
    | succ n ih39 =>
      intro B b c x t ix hn39 iv39_0 iv39_1 iv39_2 iv39_3 iv39_4 iv39_5 H locs ls hw hl
      refine lv_lload_n Ex Eb dL_isPaid_39 rfl (lv_at hl 2 rfl) ?_
      refine lv_lconst (v := iL 0) Ex Eb dL_isPaid_40 rfl ?_
      refine lo_lcmp E dL_isPaid_41 (by omega) (by omega) (fun zc5 rzc5 dzc5 => ?_)
      refine lo_if_le (tgt := 204) E dL_isPaid_42 (by decide) (by omega) (fun c6 => ?_) (fun c6 => ?_)
      · skip
        have he9 := WK_e hLi (by omega) (show ix ≤ PL (zP Z) i.toNat 3 by omega) iv39_1 (by omega)
        obtain ⟨y1, y2, y3, y4, y5⟩ := he9
        refine lv_lload_n Ex Eb dL_isPaid_204 rfl (lv_at hl 2 rfl) ?_
        refine lv_lconst (v := iL 0) Ex Eb dL_isPaid_205 rfl ?_
        refine lo_lcmp E dL_isPaid_206 (by omega) (by omega) (fun zc7 rzc7 dzc7 => ?_)
        refine lo_if_ne (tgt := 234) E dL_isPaid_207 (by decide) (by omega) (fun c8 => ?_) (fun c8 => ?_)
        · exfalso; omega
        · skip
          refine lv_lload Ex Eb dL_isPaid_210 (lv_at hl 5 rfl) ?_
          refine lv_lload Ex Eb dL_isPaid_212 (lv_at hl 4 rfl) ?_
          refine lo_ldc2 (z := 120000) E hc228 dL_isPaid_214 rfl ?_
          refine lo_ldiv E dL_isPaid_217 (by omega) (by omega) ?_
          refine lo_lcmp E dL_isPaid_218 (by omega) (by omega) (fun zc9 rzc9 dzc9 => ?_)
          refine lo_if_ne (tgt := 234) E dL_isPaid_219 (by decide) (by omega) (fun c10 => ?_) (fun c10 => ?_)
          · exfalso; omega
          · skip
            refine lv_aload_n Ex Eb dL_isPaid_222 rfl (lv_at hl 0 rfl) ?_
            refine lv_iload_n Ex Eb dL_isPaid_223 rfl (lv_at hl 1 rfl) ?_
            refine lw_cL (rest := []) E hK hV hw (kL_interestAhead l X kS D (zUA Z B) i hPI hin) (vx_cwSW 2 E.2.2.2.2 gL_isPaid_L_interestAhead rfl rfl rfl (by decide +kernel) ⟨Nat.le_of_ble_eq_true rfl, Nat.le_of_ble_eq_true rfl⟩) hl.1 rfl rfl (Nat.le_of_ble_eq_true rfl) dL_isPaid_224 ⟨Nat.le_of_ble_eq_true rfl, Nat.le_of_ble_eq_true rfl⟩ (fun t11 H locs _ hw => ?_)
            have hw : lo_Wd X ((wC X D (zUA Z t11))) A9 s9.heap H locs := hw
            refine W.eq (g2 := F0 m9 227 ls [.int (iI (runL 120 (PL (zP Z) i.toNat) 6 - PL (zP Z) i.toNat 6))]) rfl ?_
            refine lo_i2l E dL_isPaid_227 (by omega) ?_
            refine lv_lload Ex Eb dL_isPaid_228 (lv_at hl 5 rfl) ?_
            refine lo_lcmp E dL_isPaid_230 (by omega) (by omega) (fun zc12 rzc12 dzc12 => ?_)
            refine lo_if_eq (tgt := 236) E dL_isPaid_231 (by decide) (by omega) (fun c13 => ?_) (fun c13 => ?_)
            · skip
              refine lv_iload Ex Eb dL_isPaid_236 (lv_at hl 6 rfl) ?_
              refine lv_bipush (v := iI 120) Ex Eb dL_isPaid_238 rfl ?_
              refine lo_icmp_eq (tgt := 269) E dL_isPaid_240 (by decide) (by omega) (by omega) (fun c14 => ?_) (fun c14 => ?_)
              · skip
                refine lv_iconst (v := iI 1) Ex Eb dL_isPaid_269 rfl ?_
                refine lv_goto (tgt := 274) Ex Eb dL_isPaid_270 (by decide) ?_
                exact lo_zret E hRt hLk hK hAe hw dL_isPaid_274 rfl wC_f ⟨t11, (by omega), rfl, rfl⟩
              · skip
                refine lv_aload_n Ex Eb dL_isPaid_243 rfl (lv_at hl 0 rfl) ?_
                refine lv_iload_n Ex Eb dL_isPaid_244 rfl (lv_at hl 1 rfl) ?_
                refine lv_iload Ex Eb dL_isPaid_245 (lv_at hl 6 rfl) ?_
                refine lv_iconst (v := iI 1) Ex Eb dL_isPaid_247 rfl ?_
                refine lo_iadd E dL_isPaid_248 ?_
                refine lw_cL (rest := []) E hK hV hw (kL_amountOfPayment l X kS D (zUA Z t11) i (ix + 1) hPI hin (by omega)) (vx_cwSW 3 E.2.2.2.2 gL_isPaid_L_amountOfPayment rfl rfl rfl (by decide +kernel) ⟨Nat.le_of_ble_eq_true rfl, Nat.le_of_ble_eq_true rfl⟩) hl.1 rfl rfl (Nat.le_of_ble_eq_true rfl) dL_isPaid_249 ⟨Nat.le_of_ble_eq_true rfl, Nat.le_of_ble_eq_true rfl⟩ (fun t15 H locs _ hw => ?_)
                have hw : lo_Wd X ((wC X D (zUA Z t15))) A9 s9.heap H locs := hw
                refine W.eq (g2 := F0 m9 252 ls [.int (iI (apz (PL (zP Z) i.toNat) (ix + 1)))]) rfl ?_
                refine lv_iconst (v := iI (-1)) Ex Eb dL_isPaid_252 rfl ?_
                refine lo_icmp_ne (tgt := 273) E dL_isPaid_253 (by decide) (by omega) (by omega) (fun c16 => ?_) (fun c16 => ?_)
                · exact absurd c16 (by omega)
                · skip
                  refine lv_aload_n Ex Eb dL_isPaid_256 rfl (lv_at hl 0 rfl) ?_
                  refine lv_iload_n Ex Eb dL_isPaid_257 rfl (lv_at hl 1 rfl) ?_
                  refine lv_iload Ex Eb dL_isPaid_258 (lv_at hl 6 rfl) ?_
                  refine lv_iconst (v := iI 1) Ex Eb dL_isPaid_260 rfl ?_
                  refine lo_iadd E dL_isPaid_261 ?_
                  refine lw_cL (rest := []) E hK hV hw (kL_interestOfPayment l X kS D (zUA Z t15) i (ix + 1) hPI hin (by omega)) (vx_cwSW 3 E.2.2.2.2 gL_isPaid_L_interestOfPayment rfl rfl rfl (by decide +kernel) ⟨Nat.le_of_ble_eq_true rfl, Nat.le_of_ble_eq_true rfl⟩) hl.1 rfl rfl (Nat.le_of_ble_eq_true rfl) dL_isPaid_262 ⟨Nat.le_of_ble_eq_true rfl, Nat.le_of_ble_eq_true rfl⟩ (fun t17 H locs _ hw => ?_)
                  have hw : lo_Wd X ((wC X D (zUA Z t17))) A9 s9.heap H locs := hw
                  refine W.eq (g2 := F0 m9 265 ls [.int (iI (ipz (PL (zP Z) i.toNat) (ix + 1)))]) rfl ?_
                  refine lv_iconst (v := iI (-1)) Ex Eb dL_isPaid_265 rfl ?_
                  refine lo_icmp_ne (tgt := 273) E dL_isPaid_266 (by decide) (by omega) (by omega) (fun c18 => ?_) (fun c18 => ?_)
                  · exact absurd c18 (by omega)
                  · skip
                    refine lv_iconst (v := iI 1) Ex Eb dL_isPaid_269 rfl ?_
                    refine lv_goto (tgt := 274) Ex Eb dL_isPaid_270 (by decide) ?_
                    exact lo_zret E hRt hLk hK hAe hw dL_isPaid_274 rfl wC_f ⟨t17, (by omega), rfl, rfl⟩
            · exfalso; omega
      · skip
        refine lv_iload Ex Eb dL_isPaid_45 (lv_at hl 6 rfl) ?_
        refine lv_iload Ex Eb dL_isPaid_47 (lv_at hl 7 rfl) ?_
        refine lo_icmp_ge (tgt := 204) E dL_isPaid_49 (by decide) (by omega) (by omega) (fun c19 => ?_) (fun c19 => ?_)
        · skip
          have he9 := WK_e hLi (by omega) (show ix ≤ PL (zP Z) i.toNat 3 by omega) iv39_1 (by omega)
          obtain ⟨y1, y2, y3, y4, y5⟩ := he9
          refine lv_lload_n Ex Eb dL_isPaid_204 rfl (lv_at hl 2 rfl) ?_
          refine lv_lconst (v := iL 0) Ex Eb dL_isPaid_205 rfl ?_
          refine lo_lcmp E dL_isPaid_206 (by omega) (by omega) (fun zc20 rzc20 dzc20 => ?_)
          refine lo_if_ne (tgt := 234) E dL_isPaid_207 (by decide) (by omega) (fun c21 => ?_) (fun c21 => ?_)
          · exfalso; omega
          · skip
            refine lv_lload Ex Eb dL_isPaid_210 (lv_at hl 5 rfl) ?_
            refine lv_lload Ex Eb dL_isPaid_212 (lv_at hl 4 rfl) ?_
            refine lo_ldc2 (z := 120000) E hc228 dL_isPaid_214 rfl ?_
            refine lo_ldiv E dL_isPaid_217 (by omega) (by omega) ?_
            refine lo_lcmp E dL_isPaid_218 (by omega) (by omega) (fun zc22 rzc22 dzc22 => ?_)
            refine lo_if_ne (tgt := 234) E dL_isPaid_219 (by decide) (by omega) (fun c23 => ?_) (fun c23 => ?_)
            · exfalso; omega
            · skip
              refine lv_aload_n Ex Eb dL_isPaid_222 rfl (lv_at hl 0 rfl) ?_
              refine lv_iload_n Ex Eb dL_isPaid_223 rfl (lv_at hl 1 rfl) ?_
              refine lw_cL (rest := []) E hK hV hw (kL_interestAhead l X kS D (zUA Z B) i hPI hin) (vx_cwSW 2 E.2.2.2.2 gL_isPaid_L_interestAhead rfl rfl rfl (by decide +kernel) ⟨Nat.le_of_ble_eq_true rfl, Nat.le_of_ble_eq_true rfl⟩) hl.1 rfl rfl (Nat.le_of_ble_eq_true rfl) dL_isPaid_224 ⟨Nat.le_of_ble_eq_true rfl, Nat.le_of_ble_eq_true rfl⟩ (fun t24 H locs _ hw => ?_)
              have hw : lo_Wd X ((wC X D (zUA Z t24))) A9 s9.heap H locs := hw
              refine W.eq (g2 := F0 m9 227 ls [.int (iI (runL 120 (PL (zP Z) i.toNat) 6 - PL (zP Z) i.toNat 6))]) rfl ?_
              refine lo_i2l E dL_isPaid_227 (by omega) ?_
              refine lv_lload Ex Eb dL_isPaid_228 (lv_at hl 5 rfl) ?_
              refine lo_lcmp E dL_isPaid_230 (by omega) (by omega) (fun zc25 rzc25 dzc25 => ?_)
              refine lo_if_eq (tgt := 236) E dL_isPaid_231 (by decide) (by omega) (fun c26 => ?_) (fun c26 => ?_)
              · skip
                refine lv_iload Ex Eb dL_isPaid_236 (lv_at hl 6 rfl) ?_
                refine lv_bipush (v := iI 120) Ex Eb dL_isPaid_238 rfl ?_
                refine lo_icmp_eq (tgt := 269) E dL_isPaid_240 (by decide) (by omega) (by omega) (fun c27 => ?_) (fun c27 => ?_)
                · skip
                  refine lv_iconst (v := iI 1) Ex Eb dL_isPaid_269 rfl ?_
                  refine lv_goto (tgt := 274) Ex Eb dL_isPaid_270 (by decide) ?_
                  exact lo_zret E hRt hLk hK hAe hw dL_isPaid_274 rfl wC_f ⟨t24, (by omega), rfl, rfl⟩
                · skip
                  refine lv_aload_n Ex Eb dL_isPaid_243 rfl (lv_at hl 0 rfl) ?_
                  refine lv_iload_n Ex Eb dL_isPaid_244 rfl (lv_at hl 1 rfl) ?_
                  refine lv_iload Ex Eb dL_isPaid_245 (lv_at hl 6 rfl) ?_
                  refine lv_iconst (v := iI 1) Ex Eb dL_isPaid_247 rfl ?_
                  refine lo_iadd E dL_isPaid_248 ?_
                  refine lw_cL (rest := []) E hK hV hw (kL_amountOfPayment l X kS D (zUA Z t24) i (ix + 1) hPI hin (by omega)) (vx_cwSW 3 E.2.2.2.2 gL_isPaid_L_amountOfPayment rfl rfl rfl (by decide +kernel) ⟨Nat.le_of_ble_eq_true rfl, Nat.le_of_ble_eq_true rfl⟩) hl.1 rfl rfl (Nat.le_of_ble_eq_true rfl) dL_isPaid_249 ⟨Nat.le_of_ble_eq_true rfl, Nat.le_of_ble_eq_true rfl⟩ (fun t28 H locs _ hw => ?_)
                  have hw : lo_Wd X ((wC X D (zUA Z t28))) A9 s9.heap H locs := hw
                  refine W.eq (g2 := F0 m9 252 ls [.int (iI (apz (PL (zP Z) i.toNat) (ix + 1)))]) rfl ?_
                  refine lv_iconst (v := iI (-1)) Ex Eb dL_isPaid_252 rfl ?_
                  refine lo_icmp_ne (tgt := 273) E dL_isPaid_253 (by decide) (by omega) (by omega) (fun c29 => ?_) (fun c29 => ?_)
                  · exact absurd c29 (by omega)
                  · skip
                    refine lv_aload_n Ex Eb dL_isPaid_256 rfl (lv_at hl 0 rfl) ?_
                    refine lv_iload_n Ex Eb dL_isPaid_257 rfl (lv_at hl 1 rfl) ?_
                    refine lv_iload Ex Eb dL_isPaid_258 (lv_at hl 6 rfl) ?_
                    refine lv_iconst (v := iI 1) Ex Eb dL_isPaid_260 rfl ?_
                    refine lo_iadd E dL_isPaid_261 ?_
                    refine lw_cL (rest := []) E hK hV hw (kL_interestOfPayment l X kS D (zUA Z t28) i (ix + 1) hPI hin (by omega)) (vx_cwSW 3 E.2.2.2.2 gL_isPaid_L_interestOfPayment rfl rfl rfl (by decide +kernel) ⟨Nat.le_of_ble_eq_true rfl, Nat.le_of_ble_eq_true rfl⟩) hl.1 rfl rfl (Nat.le_of_ble_eq_true rfl) dL_isPaid_262 ⟨Nat.le_of_ble_eq_true rfl, Nat.le_of_ble_eq_true rfl⟩ (fun t30 H locs _ hw => ?_)
                    have hw : lo_Wd X ((wC X D (zUA Z t30))) A9 s9.heap H locs := hw
                    refine W.eq (g2 := F0 m9 265 ls [.int (iI (ipz (PL (zP Z) i.toNat) (ix + 1)))]) rfl ?_
                    refine lv_iconst (v := iI (-1)) Ex Eb dL_isPaid_265 rfl ?_
                    refine lo_icmp_ne (tgt := 273) E dL_isPaid_266 (by decide) (by omega) (by omega) (fun c31 => ?_) (fun c31 => ?_)
                    · exact absurd c31 (by omega)
                    · skip
                      refine lv_iconst (v := iI 1) Ex Eb dL_isPaid_269 rfl ?_
                      refine lv_goto (tgt := 274) Ex Eb dL_isPaid_270 (by decide) ?_
                      exact lo_zret E hRt hLk hK hAe hw dL_isPaid_274 rfl wC_f ⟨t30, (by omega), rfl, rfl⟩
              · exfalso; omega
        · skip
          have hst9 := WK_s hLi (by omega) (show ix < PL (zP Z) i.toNat 3 by omega) (show 0 < b by omega) iv39_1
          obtain ⟨⟨k1, k2, k2b⟩, k3, k4, k5, k6, k7, k8, k9, k10⟩ := hst9
          refine lv_lload_n Ex Eb dL_isPaid_52 rfl (lv_at hl 2 rfl) ?_
          refine lv_iload Ex Eb dL_isPaid_53 (lv_at hl 8 rfl) ?_
          refine lo_i2l E dL_isPaid_55 (by omega) ?_
          refine lo_lmul E dL_isPaid_56 ?_
          refine lv_lload Ex Eb dL_isPaid_57 (lv_at hl 3 rfl) ?_
          refine lo_ladd E dL_isPaid_59 ?_
          refine lo_topl (fun pa e_pa => ?_)
          refine lv_lstore (lv' := [(13, .long (iL pa)), (0, .ref (D.1 0)), (1, .int (iI i)), (2, .long (iL b)), (4, .long (iL c)), (6, .long (iL x)), (8, .long (iL t)), (10, .int (iI ix)), (11, .int (iI (PL (zP Z) i.toNat 3))), (12, .int (iI (PL (zP Z) i.toNat 2)))]) Ex Eb dL_isPaid_60 hl (by decide) rfl (fun ls hl => ?_)
          refine lv_lload Ex Eb dL_isPaid_62 (lv_at hl 5 rfl) ?_
          refine lv_lload_n Ex Eb dL_isPaid_64 rfl (lv_at hl 3 rfl) ?_
          refine lv_iload Ex Eb dL_isPaid_65 (lv_at hl 9 rfl) ?_
          refine lo_i2l E dL_isPaid_67 (by omega) ?_
          refine lo_lmul E dL_isPaid_68 ?_
          refine lo_ladd E dL_isPaid_69 ?_
          refine lo_topl (fun xa e_xa => ?_)
          refine lv_lstore (lv' := [(6, .long (iL xa)), (13, .long (iL pa)), (0, .ref (D.1 0)), (1, .int (iI i)), (2, .long (iL b)), (4, .long (iL c)), (8, .long (iL t)), (10, .int (iI ix)), (11, .int (iI (PL (zP Z) i.toNat 3))), (12, .int (iI (PL (zP Z) i.toNat 2)))]) Ex Eb dL_isPaid_70 hl (by decide) rfl (fun ls hl => ?_)
          refine lv_lload Ex Eb dL_isPaid_72 (lv_at hl 1 rfl) ?_
          refine lo_ldc2 (z := 120000) E hc228 dL_isPaid_74 rfl ?_
          refine lo_ldiv E dL_isPaid_77 (by omega) (by omega) ?_
          refine lo_topl (fun on e_on => ?_)
          refine lv_lstore (lv' := [(15, .long (iL on)), (6, .long (iL xa)), (13, .long (iL pa)), (0, .ref (D.1 0)), (1, .int (iI i)), (2, .long (iL b)), (4, .long (iL c)), (8, .long (iL t)), (10, .int (iI ix)), (11, .int (iI (PL (zP Z) i.toNat 3))), (12, .int (iI (PL (zP Z) i.toNat 2)))]) Ex Eb dL_isPaid_78 hl (by decide) rfl (fun ls hl => ?_)
          refine lv_lload Ex Eb dL_isPaid_80 (lv_at hl 2 rfl) ?_
          refine lo_ldc2 (z := 120000) E hc228 dL_isPaid_82 rfl ?_
          refine lo_lrem E dL_isPaid_85 (by omega) (by omega) ?_
          refine lo_topl (fun ca e_ca => ?_)
          refine lv_lstore (lv' := [(4, .long (iL ca)), (15, .long (iL on)), (6, .long (iL xa)), (13, .long (iL pa)), (0, .ref (D.1 0)), (1, .int (iI i)), (2, .long (iL b)), (8, .long (iL t)), (10, .int (iI ix)), (11, .int (iI (PL (zP Z) i.toNat 3))), (12, .int (iI (PL (zP Z) i.toNat 2)))]) Ex Eb dL_isPaid_86 hl (by decide) rfl (fun ls hl => ?_)
          refine lv_lload Ex Eb dL_isPaid_88 (lv_at hl 7 rfl) ?_
          refine lv_lload Ex Eb dL_isPaid_90 (lv_at hl 1 rfl) ?_
          refine lo_ladd E dL_isPaid_92 ?_
          refine lo_topl (fun ta e_ta => ?_)
          refine lv_lstore (lv' := [(8, .long (iL ta)), (4, .long (iL ca)), (15, .long (iL on)), (6, .long (iL xa)), (13, .long (iL pa)), (0, .ref (D.1 0)), (1, .int (iI i)), (2, .long (iL b)), (10, .int (iI ix)), (11, .int (iI (PL (zP Z) i.toNat 3))), (12, .int (iI (PL (zP Z) i.toNat 2)))]) Ex Eb dL_isPaid_93 hl (by decide) rfl (fun ls hl => ?_)
          refine lv_lload_n Ex Eb dL_isPaid_95 rfl (lv_at hl 7 rfl) ?_
          refine lv_lload Ex Eb dL_isPaid_96 (lv_at hl 2 rfl) ?_
          refine lo_ladd E dL_isPaid_98 ?_
          refine lo_topl (fun al e_al => ?_)
          refine lv_lstore (lv' := [(17, .long (iL al)), (8, .long (iL ta)), (4, .long (iL ca)), (15, .long (iL on)), (6, .long (iL xa)), (13, .long (iL pa)), (0, .ref (D.1 0)), (1, .int (iI i)), (2, .long (iL b)), (10, .int (iI ix)), (11, .int (iI (PL (zP Z) i.toNat 3))), (12, .int (iI (PL (zP Z) i.toNat 2)))]) Ex Eb dL_isPaid_99 hl (by decide) rfl (fun ls hl => ?_)
          refine lv_lload Ex Eb dL_isPaid_101 (lv_at hl 0 rfl) ?_
          refine lv_aload_n Ex Eb dL_isPaid_103 rfl (lv_at hl 6 rfl) ?_
          refine lv_iload_n Ex Eb dL_isPaid_104 rfl (lv_at hl 7 rfl) ?_
          refine lw_cL (rest := [.long (iL al)]) E hK hV hw (kL_installment l X kS D (zUA Z B) i hPI hin) (vx_cwSW 2 E.2.2.2.2 gL_isPaid_L_installment rfl rfl rfl (by decide +kernel) ⟨Nat.le_of_ble_eq_true rfl, Nat.le_of_ble_eq_true rfl⟩) hl.1 rfl rfl (Nat.le_of_ble_eq_true rfl) dL_isPaid_105 ⟨Nat.le_of_ble_eq_true rfl, Nat.le_of_ble_eq_true rfl⟩ (fun t32 H locs _ hw => ?_)
          have hw : lo_Wd X ((wC X D (zUA Z t32))) A9 s9.heap H locs := hw
          refine W.eq (g2 := F0 m9 108 ls [.int (iI (PL (zP Z) i.toNat 4)), .long (iL al)]) rfl ?_
          refine lo_i2l E dL_isPaid_108 (by omega) ?_
          refine lo_lcmp E dL_isPaid_109 (by omega) (by omega) (fun zc33 rzc33 dzc33 => ?_)
          refine lo_if_le (tgt := 122) E dL_isPaid_110 (by decide) (by omega) (fun c34 => ?_) (fun c34 => ?_)
          · skip
            refine lv_lload Ex Eb dL_isPaid_122 (lv_at hl 0 rfl) ?_
            refine lv_goto (tgt := 133) Ex Eb dL_isPaid_124 (by decide) ?_
            refine lv_lstore (lv' := [(19, .long (iL al)), (17, .long (iL al)), (8, .long (iL ta)), (4, .long (iL ca)), (15, .long (iL on)), (6, .long (iL xa)), (13, .long (iL pa)), (0, .ref (D.1 0)), (1, .int (iI i)), (2, .long (iL b)), (10, .int (iI ix)), (11, .int (iI (PL (zP Z) i.toNat 3))), (12, .int (iI (PL (zP Z) i.toNat 2)))]) Ex Eb dL_isPaid_133 hl (by decide) rfl (fun ls hl => ?_)
            refine lo_iinc (lv' := [(10, .int (iI (ix + 1))), (19, .long (iL al)), (17, .long (iL al)), (8, .long (iL ta)), (4, .long (iL ca)), (15, .long (iL on)), (6, .long (iL xa)), (13, .long (iL pa)), (0, .ref (D.1 0)), (1, .int (iI i)), (2, .long (iL b)), (11, .int (iI (PL (zP Z) i.toNat 3))), (12, .int (iI (PL (zP Z) i.toNat 2)))]) E dL_isPaid_135 hl (k := 10) rfl (by decide) rfl (fun ls hl => ?_)
            refine lv_aload_n Ex Eb dL_isPaid_138 rfl (lv_at hl 8 rfl) ?_
            refine lv_iload_n Ex Eb dL_isPaid_139 rfl (lv_at hl 9 rfl) ?_
            refine lv_iload Ex Eb dL_isPaid_140 (lv_at hl 0 rfl) ?_
            refine lw_cL (rest := []) E hK hV hw (kL_amountOfPayment l X kS D (zUA Z t32) i (ix + 1) hPI hin (by omega)) (vx_cwSW 3 E.2.2.2.2 gL_isPaid_L_amountOfPayment rfl rfl rfl (by decide +kernel) ⟨Nat.le_of_ble_eq_true rfl, Nat.le_of_ble_eq_true rfl⟩) hl.1 rfl rfl (Nat.le_of_ble_eq_true rfl) dL_isPaid_142 ⟨Nat.le_of_ble_eq_true rfl, Nat.le_of_ble_eq_true rfl⟩ (fun t35 H locs _ hw => ?_)
            have hw : lo_Wd X ((wC X D (zUA Z t35))) A9 s9.heap H locs := hw
            refine W.eq (g2 := F0 m9 145 ls [.int (iI (apz (PL (zP Z) i.toNat) (ix + 1)))]) rfl ?_
            refine lo_i2l E dL_isPaid_145 (by omega) ?_
            refine lv_lload Ex Eb dL_isPaid_146 (lv_at hl 1 rfl) ?_
            refine lo_lcmp E dL_isPaid_148 (by omega) (by omega) (fun zc36 rzc36 dzc36 => ?_)
            refine lo_if_ne (tgt := 178) E dL_isPaid_149 (by decide) (by omega) (fun c37 => ?_) (fun c37 => ?_)
            · exfalso; omega
            · skip
              refine lv_aload_n Ex Eb dL_isPaid_152 rfl (lv_at hl 8 rfl) ?_
              refine lv_iload_n Ex Eb dL_isPaid_153 rfl (lv_at hl 9 rfl) ?_
              refine lv_iload Ex Eb dL_isPaid_154 (lv_at hl 0 rfl) ?_
              refine lw_cL (rest := []) E hK hV hw (kL_interestOfPayment l X kS D (zUA Z t35) i (ix + 1) hPI hin (by omega)) (vx_cwSW 3 E.2.2.2.2 gL_isPaid_L_interestOfPayment rfl rfl rfl (by decide +kernel) ⟨Nat.le_of_ble_eq_true rfl, Nat.le_of_ble_eq_true rfl⟩) hl.1 rfl rfl (Nat.le_of_ble_eq_true rfl) dL_isPaid_156 ⟨Nat.le_of_ble_eq_true rfl, Nat.le_of_ble_eq_true rfl⟩ (fun t38 H locs _ hw => ?_)
              have hw : lo_Wd X ((wC X D (zUA Z t38))) A9 s9.heap H locs := hw
              refine W.eq (g2 := F0 m9 159 ls [.int (iI (ipz (PL (zP Z) i.toNat) (ix + 1)))]) rfl ?_
              refine lo_i2l E dL_isPaid_159 (by omega) ?_
              refine lv_lload Ex Eb dL_isPaid_160 (lv_at hl 5 rfl) ?_
              refine lo_lcmp E dL_isPaid_162 (by omega) (by omega) (fun zc39 rzc39 dzc39 => ?_)
              refine lo_if_ne (tgt := 178) E dL_isPaid_163 (by decide) (by omega) (fun c40 => ?_) (fun c40 => ?_)
              · exfalso; omega
              · skip
                refine lv_lload Ex Eb dL_isPaid_166 (lv_at hl 1 rfl) ?_
                refine lv_aload_n Ex Eb dL_isPaid_168 rfl (lv_at hl 8 rfl) ?_
                refine lv_iload_n Ex Eb dL_isPaid_169 rfl (lv_at hl 9 rfl) ?_
                refine lw_cL (rest := [.long (iL al)]) E hK hV hw (kL_installment l X kS D (zUA Z t38) i hPI hin) (vx_cwSW 2 E.2.2.2.2 gL_isPaid_L_installment rfl rfl rfl (by decide +kernel) ⟨Nat.le_of_ble_eq_true rfl, Nat.le_of_ble_eq_true rfl⟩) hl.1 rfl rfl (Nat.le_of_ble_eq_true rfl) dL_isPaid_170 ⟨Nat.le_of_ble_eq_true rfl, Nat.le_of_ble_eq_true rfl⟩ (fun t41 H locs _ hw => ?_)
                have hw : lo_Wd X ((wC X D (zUA Z t41))) A9 s9.heap H locs := hw
                refine W.eq (g2 := F0 m9 173 ls [.int (iI (PL (zP Z) i.toNat 4)), .long (iL al)]) rfl ?_
                refine lo_i2l E dL_isPaid_173 (by omega) ?_
                refine lo_lcmp E dL_isPaid_174 (by omega) (by omega) (fun zc42 rzc42 dzc42 => ?_)
                refine lo_if_le (tgt := 180) E dL_isPaid_175 (by decide) (by omega) (fun c43 => ?_) (fun c43 => ?_)
                · skip
                  refine lv_lload Ex Eb dL_isPaid_180 (lv_at hl 2 rfl) ?_
                  refine lv_lload Ex Eb dL_isPaid_182 (lv_at hl 1 rfl) ?_
                  refine lo_lsub E dL_isPaid_184 ?_
                  refine lo_topl (fun bb e_bb => ?_)
                  refine lv_lstore_n (lv' := [(2, .long (iL bb)), (10, .int (iI (ix + 1))), (19, .long (iL al)), (17, .long (iL al)), (8, .long (iL ta)), (4, .long (iL ca)), (15, .long (iL on)), (6, .long (iL xa)), (13, .long (iL pa)), (0, .ref (D.1 0)), (1, .int (iI i)), (11, .int (iI (PL (zP Z) i.toNat 3))), (12, .int (iI (PL (zP Z) i.toNat 2)))]) Ex Eb dL_isPaid_185 rfl hl (by decide) rfl (fun ls hl => ?_)
                  refine lv_aload_n Ex Eb dL_isPaid_186 rfl (lv_at hl 9 rfl) ?_
                  refine lv_iload_n Ex Eb dL_isPaid_187 rfl (lv_at hl 10 rfl) ?_
                  refine lv_iload Ex Eb dL_isPaid_188 (lv_at hl 1 rfl) ?_
                  refine lw_cL (rest := []) E hK hV hw (kL_balanceAfter l X kS D (zUA Z t41) i (ix + 1) hPI hin (by omega)) (vx_cwSW 3 E.2.2.2.2 gL_isPaid_L_balanceAfter rfl rfl rfl (by decide +kernel) ⟨Nat.le_of_ble_eq_true rfl, Nat.le_of_ble_eq_true rfl⟩) hl.1 rfl rfl (Nat.le_of_ble_eq_true rfl) dL_isPaid_190 ⟨Nat.le_of_ble_eq_true rfl, Nat.le_of_ble_eq_true rfl⟩ (fun t44 H locs _ hw => ?_)
                  have hw : lo_Wd X ((wC X D (zUA Z t44))) A9 s9.heap H locs := hw
                  refine W.eq (g2 := F0 m9 193 ls [.int (iI (runL (ix + 1).toNat (PL (zP Z) i.toNat) 1))]) rfl ?_
                  refine lo_i2l E dL_isPaid_193 (by omega) ?_
                  refine lv_lload_n Ex Eb dL_isPaid_194 rfl (lv_at hl 0 rfl) ?_
                  refine lo_lcmp E dL_isPaid_195 (by omega) (by omega) (fun zc45 rzc45 dzc45 => ?_)
                  refine lo_if_eq (tgt := 201) E dL_isPaid_196 (by decide) (by omega) (fun c46 => ?_) (fun c46 => ?_)
                  · skip
                    refine lv_goto (tgt := 39) Ex Eb dL_isPaid_201 (by decide) ?_
                    exact ih39 t44 bb ca xa ta (ix + 1) (by omega) (by omega) (by have e1 : bb = b + ipz (PL (zP Z) i.toNat) (ix + 1) - dueL (runL ix.toNat (PL (zP Z) i.toNat)) := (by omega); have e2 : ca = (b * PL (zP Z) i.toNat 2 + c) % 120000 := (by omega); have e3 : ta = t + ipz (PL (zP Z) i.toNat) (ix + 1) := (by omega); rw [e1, e2, e3]; exact k10) (by omega) (by have h9 := (runL_LI (ix + 1).toNat _ hLi).1; omega) (by omega) (by omega) _ _ _ hw (lv_sub hl [9, 10, 0, 5, 7, 4, 1, 11, 12] rfl)
                  · exfalso; omega
                · exfalso; omega
          · skip
            refine lv_iload Ex Eb dL_isPaid_113 (lv_at hl 9 rfl) ?_
            refine lv_iconst (v := iI 1) Ex Eb dL_isPaid_115 rfl ?_
            refine lo_iadd E dL_isPaid_116 ?_
            refine lv_iload Ex Eb dL_isPaid_117 (lv_at hl 10 rfl) ?_
            refine lo_icmp_ne (tgt := 127) E dL_isPaid_119 (by decide) (by omega) (by omega) (fun c47 => ?_) (fun c47 => ?_)
            · skip
              refine lv_aload_n Ex Eb dL_isPaid_127 rfl (lv_at hl 6 rfl) ?_
              refine lv_iload_n Ex Eb dL_isPaid_128 rfl (lv_at hl 7 rfl) ?_
              refine lw_cL (rest := []) E hK hV hw (kL_installment l X kS D (zUA Z t32) i hPI hin) (vx_cwSW 2 E.2.2.2.2 gL_isPaid_L_installment rfl rfl rfl (by decide +kernel) ⟨Nat.le_of_ble_eq_true rfl, Nat.le_of_ble_eq_true rfl⟩) hl.1 rfl rfl (Nat.le_of_ble_eq_true rfl) dL_isPaid_129 ⟨Nat.le_of_ble_eq_true rfl, Nat.le_of_ble_eq_true rfl⟩ (fun t48 H locs _ hw => ?_)
              have hw : lo_Wd X ((wC X D (zUA Z t48))) A9 s9.heap H locs := hw
              refine W.eq (g2 := F0 m9 132 ls [.int (iI (PL (zP Z) i.toNat 4))]) rfl ?_
              refine lo_i2l E dL_isPaid_132 (by omega) ?_
              refine lv_lstore (lv' := [(19, .long (iL (PL (zP Z) i.toNat 4))), (17, .long (iL al)), (8, .long (iL ta)), (4, .long (iL ca)), (15, .long (iL on)), (6, .long (iL xa)), (13, .long (iL pa)), (0, .ref (D.1 0)), (1, .int (iI i)), (2, .long (iL b)), (10, .int (iI ix)), (11, .int (iI (PL (zP Z) i.toNat 3))), (12, .int (iI (PL (zP Z) i.toNat 2)))]) Ex Eb dL_isPaid_133 hl (by decide) rfl (fun ls hl => ?_)
              refine lo_iinc (lv' := [(10, .int (iI (ix + 1))), (19, .long (iL (PL (zP Z) i.toNat 4))), (17, .long (iL al)), (8, .long (iL ta)), (4, .long (iL ca)), (15, .long (iL on)), (6, .long (iL xa)), (13, .long (iL pa)), (0, .ref (D.1 0)), (1, .int (iI i)), (2, .long (iL b)), (11, .int (iI (PL (zP Z) i.toNat 3))), (12, .int (iI (PL (zP Z) i.toNat 2)))]) E dL_isPaid_135 hl (k := 10) rfl (by decide) rfl (fun ls hl => ?_)
              refine lv_aload_n Ex Eb dL_isPaid_138 rfl (lv_at hl 8 rfl) ?_
              refine lv_iload_n Ex Eb dL_isPaid_139 rfl (lv_at hl 9 rfl) ?_
              refine lv_iload Ex Eb dL_isPaid_140 (lv_at hl 0 rfl) ?_
              refine lw_cL (rest := []) E hK hV hw (kL_amountOfPayment l X kS D (zUA Z t48) i (ix + 1) hPI hin (by omega)) (vx_cwSW 3 E.2.2.2.2 gL_isPaid_L_amountOfPayment rfl rfl rfl (by decide +kernel) ⟨Nat.le_of_ble_eq_true rfl, Nat.le_of_ble_eq_true rfl⟩) hl.1 rfl rfl (Nat.le_of_ble_eq_true rfl) dL_isPaid_142 ⟨Nat.le_of_ble_eq_true rfl, Nat.le_of_ble_eq_true rfl⟩ (fun t49 H locs _ hw => ?_)
              have hw : lo_Wd X ((wC X D (zUA Z t49))) A9 s9.heap H locs := hw
              refine W.eq (g2 := F0 m9 145 ls [.int (iI (apz (PL (zP Z) i.toNat) (ix + 1)))]) rfl ?_
              refine lo_i2l E dL_isPaid_145 (by omega) ?_
              refine lv_lload Ex Eb dL_isPaid_146 (lv_at hl 1 rfl) ?_
              refine lo_lcmp E dL_isPaid_148 (by omega) (by omega) (fun zc50 rzc50 dzc50 => ?_)
              refine lo_if_ne (tgt := 178) E dL_isPaid_149 (by decide) (by omega) (fun c51 => ?_) (fun c51 => ?_)
              · exfalso; omega
              · skip
                refine lv_aload_n Ex Eb dL_isPaid_152 rfl (lv_at hl 8 rfl) ?_
                refine lv_iload_n Ex Eb dL_isPaid_153 rfl (lv_at hl 9 rfl) ?_
                refine lv_iload Ex Eb dL_isPaid_154 (lv_at hl 0 rfl) ?_
                refine lw_cL (rest := []) E hK hV hw (kL_interestOfPayment l X kS D (zUA Z t49) i (ix + 1) hPI hin (by omega)) (vx_cwSW 3 E.2.2.2.2 gL_isPaid_L_interestOfPayment rfl rfl rfl (by decide +kernel) ⟨Nat.le_of_ble_eq_true rfl, Nat.le_of_ble_eq_true rfl⟩) hl.1 rfl rfl (Nat.le_of_ble_eq_true rfl) dL_isPaid_156 ⟨Nat.le_of_ble_eq_true rfl, Nat.le_of_ble_eq_true rfl⟩ (fun t52 H locs _ hw => ?_)
                have hw : lo_Wd X ((wC X D (zUA Z t52))) A9 s9.heap H locs := hw
                refine W.eq (g2 := F0 m9 159 ls [.int (iI (ipz (PL (zP Z) i.toNat) (ix + 1)))]) rfl ?_
                refine lo_i2l E dL_isPaid_159 (by omega) ?_
                refine lv_lload Ex Eb dL_isPaid_160 (lv_at hl 5 rfl) ?_
                refine lo_lcmp E dL_isPaid_162 (by omega) (by omega) (fun zc53 rzc53 dzc53 => ?_)
                refine lo_if_ne (tgt := 178) E dL_isPaid_163 (by decide) (by omega) (fun c54 => ?_) (fun c54 => ?_)
                · exfalso; omega
                · skip
                  refine lv_lload Ex Eb dL_isPaid_166 (lv_at hl 1 rfl) ?_
                  refine lv_aload_n Ex Eb dL_isPaid_168 rfl (lv_at hl 8 rfl) ?_
                  refine lv_iload_n Ex Eb dL_isPaid_169 rfl (lv_at hl 9 rfl) ?_
                  refine lw_cL (rest := [.long (iL (PL (zP Z) i.toNat 4))]) E hK hV hw (kL_installment l X kS D (zUA Z t52) i hPI hin) (vx_cwSW 2 E.2.2.2.2 gL_isPaid_L_installment rfl rfl rfl (by decide +kernel) ⟨Nat.le_of_ble_eq_true rfl, Nat.le_of_ble_eq_true rfl⟩) hl.1 rfl rfl (Nat.le_of_ble_eq_true rfl) dL_isPaid_170 ⟨Nat.le_of_ble_eq_true rfl, Nat.le_of_ble_eq_true rfl⟩ (fun t55 H locs _ hw => ?_)
                  have hw : lo_Wd X ((wC X D (zUA Z t55))) A9 s9.heap H locs := hw
                  refine W.eq (g2 := F0 m9 173 ls [.int (iI (PL (zP Z) i.toNat 4)), .long (iL (PL (zP Z) i.toNat 4))]) rfl ?_
                  refine lo_i2l E dL_isPaid_173 (by omega) ?_
                  refine lo_lcmp E dL_isPaid_174 (by omega) (by omega) (fun zc56 rzc56 dzc56 => ?_)
                  refine lo_if_le (tgt := 180) E dL_isPaid_175 (by decide) (by omega) (fun c57 => ?_) (fun c57 => ?_)
                  · skip
                    refine lv_lload Ex Eb dL_isPaid_180 (lv_at hl 2 rfl) ?_
                    refine lv_lload Ex Eb dL_isPaid_182 (lv_at hl 1 rfl) ?_
                    refine lo_lsub E dL_isPaid_184 ?_
                    refine lo_topl (fun bb e_bb => ?_)
                    refine lv_lstore_n (lv' := [(2, .long (iL bb)), (10, .int (iI (ix + 1))), (19, .long (iL (PL (zP Z) i.toNat 4))), (17, .long (iL al)), (8, .long (iL ta)), (4, .long (iL ca)), (15, .long (iL on)), (6, .long (iL xa)), (13, .long (iL pa)), (0, .ref (D.1 0)), (1, .int (iI i)), (11, .int (iI (PL (zP Z) i.toNat 3))), (12, .int (iI (PL (zP Z) i.toNat 2)))]) Ex Eb dL_isPaid_185 rfl hl (by decide) rfl (fun ls hl => ?_)
                    refine lv_aload_n Ex Eb dL_isPaid_186 rfl (lv_at hl 9 rfl) ?_
                    refine lv_iload_n Ex Eb dL_isPaid_187 rfl (lv_at hl 10 rfl) ?_
                    refine lv_iload Ex Eb dL_isPaid_188 (lv_at hl 1 rfl) ?_
                    refine lw_cL (rest := []) E hK hV hw (kL_balanceAfter l X kS D (zUA Z t55) i (ix + 1) hPI hin (by omega)) (vx_cwSW 3 E.2.2.2.2 gL_isPaid_L_balanceAfter rfl rfl rfl (by decide +kernel) ⟨Nat.le_of_ble_eq_true rfl, Nat.le_of_ble_eq_true rfl⟩) hl.1 rfl rfl (Nat.le_of_ble_eq_true rfl) dL_isPaid_190 ⟨Nat.le_of_ble_eq_true rfl, Nat.le_of_ble_eq_true rfl⟩ (fun t58 H locs _ hw => ?_)
                    have hw : lo_Wd X ((wC X D (zUA Z t58))) A9 s9.heap H locs := hw
                    refine W.eq (g2 := F0 m9 193 ls [.int (iI (runL (ix + 1).toNat (PL (zP Z) i.toNat) 1))]) rfl ?_
                    refine lo_i2l E dL_isPaid_193 (by omega) ?_
                    refine lv_lload_n Ex Eb dL_isPaid_194 rfl (lv_at hl 0 rfl) ?_
                    refine lo_lcmp E dL_isPaid_195 (by omega) (by omega) (fun zc59 rzc59 dzc59 => ?_)
                    refine lo_if_eq (tgt := 201) E dL_isPaid_196 (by decide) (by omega) (fun c60 => ?_) (fun c60 => ?_)
                    · skip
                      refine lv_goto (tgt := 39) Ex Eb dL_isPaid_201 (by decide) ?_
                      exact ih39 t58 bb ca xa ta (ix + 1) (by omega) (by omega) (by have e1 : bb = b + ipz (PL (zP Z) i.toNat) (ix + 1) - dueL (runL ix.toNat (PL (zP Z) i.toNat)) := (by omega); have e2 : ca = (b * PL (zP Z) i.toNat 2 + c) % 120000 := (by omega); have e3 : ta = t + ipz (PL (zP Z) i.toNat) (ix + 1) := (by omega); rw [e1, e2, e3]; exact k10) (by omega) (by have h9 := (runL_LI (ix + 1).toNat _ hLi).1; omega) (by omega) (by omega) _ _ _ hw (lv_sub hl [9, 10, 0, 5, 7, 4, 1, 11, 12] rfl)
                    · exfalso; omega
                  · exfalso; omega
            · skip
              refine lv_lload Ex Eb dL_isPaid_122 (lv_at hl 0 rfl) ?_
              refine lv_goto (tgt := 133) Ex Eb dL_isPaid_124 (by decide) ?_
              refine lv_lstore (lv' := [(19, .long (iL al)), (17, .long (iL al)), (8, .long (iL ta)), (4, .long (iL ca)), (15, .long (iL on)), (6, .long (iL xa)), (13, .long (iL pa)), (0, .ref (D.1 0)), (1, .int (iI i)), (2, .long (iL b)), (10, .int (iI ix)), (11, .int (iI (PL (zP Z) i.toNat 3))), (12, .int (iI (PL (zP Z) i.toNat 2)))]) Ex Eb dL_isPaid_133 hl (by decide) rfl (fun ls hl => ?_)
              refine lo_iinc (lv' := [(10, .int (iI (ix + 1))), (19, .long (iL al)), (17, .long (iL al)), (8, .long (iL ta)), (4, .long (iL ca)), (15, .long (iL on)), (6, .long (iL xa)), (13, .long (iL pa)), (0, .ref (D.1 0)), (1, .int (iI i)), (2, .long (iL b)), (11, .int (iI (PL (zP Z) i.toNat 3))), (12, .int (iI (PL (zP Z) i.toNat 2)))]) E dL_isPaid_135 hl (k := 10) rfl (by decide) rfl (fun ls hl => ?_)
              refine lv_aload_n Ex Eb dL_isPaid_138 rfl (lv_at hl 8 rfl) ?_
              refine lv_iload_n Ex Eb dL_isPaid_139 rfl (lv_at hl 9 rfl) ?_
              refine lv_iload Ex Eb dL_isPaid_140 (lv_at hl 0 rfl) ?_
              refine lw_cL (rest := []) E hK hV hw (kL_amountOfPayment l X kS D (zUA Z t32) i (ix + 1) hPI hin (by omega)) (vx_cwSW 3 E.2.2.2.2 gL_isPaid_L_amountOfPayment rfl rfl rfl (by decide +kernel) ⟨Nat.le_of_ble_eq_true rfl, Nat.le_of_ble_eq_true rfl⟩) hl.1 rfl rfl (Nat.le_of_ble_eq_true rfl) dL_isPaid_142 ⟨Nat.le_of_ble_eq_true rfl, Nat.le_of_ble_eq_true rfl⟩ (fun t61 H locs _ hw => ?_)
              have hw : lo_Wd X ((wC X D (zUA Z t61))) A9 s9.heap H locs := hw
              refine W.eq (g2 := F0 m9 145 ls [.int (iI (apz (PL (zP Z) i.toNat) (ix + 1)))]) rfl ?_
              refine lo_i2l E dL_isPaid_145 (by omega) ?_
              refine lv_lload Ex Eb dL_isPaid_146 (lv_at hl 1 rfl) ?_
              refine lo_lcmp E dL_isPaid_148 (by omega) (by omega) (fun zc62 rzc62 dzc62 => ?_)
              refine lo_if_ne (tgt := 178) E dL_isPaid_149 (by decide) (by omega) (fun c63 => ?_) (fun c63 => ?_)
              · exfalso; omega
              · skip
                refine lv_aload_n Ex Eb dL_isPaid_152 rfl (lv_at hl 8 rfl) ?_
                refine lv_iload_n Ex Eb dL_isPaid_153 rfl (lv_at hl 9 rfl) ?_
                refine lv_iload Ex Eb dL_isPaid_154 (lv_at hl 0 rfl) ?_
                refine lw_cL (rest := []) E hK hV hw (kL_interestOfPayment l X kS D (zUA Z t61) i (ix + 1) hPI hin (by omega)) (vx_cwSW 3 E.2.2.2.2 gL_isPaid_L_interestOfPayment rfl rfl rfl (by decide +kernel) ⟨Nat.le_of_ble_eq_true rfl, Nat.le_of_ble_eq_true rfl⟩) hl.1 rfl rfl (Nat.le_of_ble_eq_true rfl) dL_isPaid_156 ⟨Nat.le_of_ble_eq_true rfl, Nat.le_of_ble_eq_true rfl⟩ (fun t64 H locs _ hw => ?_)
                have hw : lo_Wd X ((wC X D (zUA Z t64))) A9 s9.heap H locs := hw
                refine W.eq (g2 := F0 m9 159 ls [.int (iI (ipz (PL (zP Z) i.toNat) (ix + 1)))]) rfl ?_
                refine lo_i2l E dL_isPaid_159 (by omega) ?_
                refine lv_lload Ex Eb dL_isPaid_160 (lv_at hl 5 rfl) ?_
                refine lo_lcmp E dL_isPaid_162 (by omega) (by omega) (fun zc65 rzc65 dzc65 => ?_)
                refine lo_if_ne (tgt := 178) E dL_isPaid_163 (by decide) (by omega) (fun c66 => ?_) (fun c66 => ?_)
                · exfalso; omega
                · skip
                  refine lv_lload Ex Eb dL_isPaid_166 (lv_at hl 1 rfl) ?_
                  refine lv_aload_n Ex Eb dL_isPaid_168 rfl (lv_at hl 8 rfl) ?_
                  refine lv_iload_n Ex Eb dL_isPaid_169 rfl (lv_at hl 9 rfl) ?_
                  refine lw_cL (rest := [.long (iL al)]) E hK hV hw (kL_installment l X kS D (zUA Z t64) i hPI hin) (vx_cwSW 2 E.2.2.2.2 gL_isPaid_L_installment rfl rfl rfl (by decide +kernel) ⟨Nat.le_of_ble_eq_true rfl, Nat.le_of_ble_eq_true rfl⟩) hl.1 rfl rfl (Nat.le_of_ble_eq_true rfl) dL_isPaid_170 ⟨Nat.le_of_ble_eq_true rfl, Nat.le_of_ble_eq_true rfl⟩ (fun t67 H locs _ hw => ?_)
                  have hw : lo_Wd X ((wC X D (zUA Z t67))) A9 s9.heap H locs := hw
                  refine W.eq (g2 := F0 m9 173 ls [.int (iI (PL (zP Z) i.toNat 4)), .long (iL al)]) rfl ?_
                  refine lo_i2l E dL_isPaid_173 (by omega) ?_
                  refine lo_lcmp E dL_isPaid_174 (by omega) (by omega) (fun zc68 rzc68 dzc68 => ?_)
                  refine lo_if_le (tgt := 180) E dL_isPaid_175 (by decide) (by omega) (fun c69 => ?_) (fun c69 => ?_)
                  · skip
                    refine lv_lload Ex Eb dL_isPaid_180 (lv_at hl 2 rfl) ?_
                    refine lv_lload Ex Eb dL_isPaid_182 (lv_at hl 1 rfl) ?_
                    refine lo_lsub E dL_isPaid_184 ?_
                    refine lo_topl (fun bb e_bb => ?_)
                    refine lv_lstore_n (lv' := [(2, .long (iL bb)), (10, .int (iI (ix + 1))), (19, .long (iL al)), (17, .long (iL al)), (8, .long (iL ta)), (4, .long (iL ca)), (15, .long (iL on)), (6, .long (iL xa)), (13, .long (iL pa)), (0, .ref (D.1 0)), (1, .int (iI i)), (11, .int (iI (PL (zP Z) i.toNat 3))), (12, .int (iI (PL (zP Z) i.toNat 2)))]) Ex Eb dL_isPaid_185 rfl hl (by decide) rfl (fun ls hl => ?_)
                    refine lv_aload_n Ex Eb dL_isPaid_186 rfl (lv_at hl 9 rfl) ?_
                    refine lv_iload_n Ex Eb dL_isPaid_187 rfl (lv_at hl 10 rfl) ?_
                    refine lv_iload Ex Eb dL_isPaid_188 (lv_at hl 1 rfl) ?_
                    refine lw_cL (rest := []) E hK hV hw (kL_balanceAfter l X kS D (zUA Z t67) i (ix + 1) hPI hin (by omega)) (vx_cwSW 3 E.2.2.2.2 gL_isPaid_L_balanceAfter rfl rfl rfl (by decide +kernel) ⟨Nat.le_of_ble_eq_true rfl, Nat.le_of_ble_eq_true rfl⟩) hl.1 rfl rfl (Nat.le_of_ble_eq_true rfl) dL_isPaid_190 ⟨Nat.le_of_ble_eq_true rfl, Nat.le_of_ble_eq_true rfl⟩ (fun t70 H locs _ hw => ?_)
                    have hw : lo_Wd X ((wC X D (zUA Z t70))) A9 s9.heap H locs := hw
                    refine W.eq (g2 := F0 m9 193 ls [.int (iI (runL (ix + 1).toNat (PL (zP Z) i.toNat) 1))]) rfl ?_
                    refine lo_i2l E dL_isPaid_193 (by omega) ?_
                    refine lv_lload_n Ex Eb dL_isPaid_194 rfl (lv_at hl 0 rfl) ?_
                    refine lo_lcmp E dL_isPaid_195 (by omega) (by omega) (fun zc71 rzc71 dzc71 => ?_)
                    refine lo_if_eq (tgt := 201) E dL_isPaid_196 (by decide) (by omega) (fun c72 => ?_) (fun c72 => ?_)
                    · skip
                      refine lv_goto (tgt := 39) Ex Eb dL_isPaid_201 (by decide) ?_
                      exact ih39 t70 bb ca xa ta (ix + 1) (by omega) (by omega) (by have e1 : bb = b + ipz (PL (zP Z) i.toNat) (ix + 1) - dueL (runL ix.toNat (PL (zP Z) i.toNat)) := (by omega); have e2 : ca = (b * PL (zP Z) i.toNat 2 + c) % 120000 := (by omega); have e3 : ta = t + ipz (PL (zP Z) i.toNat) (ix + 1) := (by omega); rw [e1, e2, e3]; exact k10) (by omega) (by have h9 := (runL_LI (ix + 1).toNat _ hLi).1; omega) (by omega) (by omega) _ _ _ hw (lv_sub hl [9, 10, 0, 5, 7, 4, 1, 11, 12] rfl)
                    · exfalso; omega
                  · exfalso; omega
  exact lp39 _ t4 (PL (zP Z) i.toNat 1) (PL (zP Z) i.toNat 5) (PL (zP Z) i.toNat 5) 0 0 (Nat.lt_succ_self _) (by omega) (WK_0 hLi) (by omega) (by omega) (by omega) (by omega) _ _ _ hw (lv_sub hl [7, 8, 6, 5, 4, 3, 2, 1, 0] rfl)
