set_option maxHeartbeats 4000000 in
set_option maxRecDepth 100000 in
theorem kX7_putWord (l : Launch) (X : KX) (xo xi xh xs xr xt xl xa xc : Nat) (isz sv : Int) (xp : Nat) (T : Nat → Int) (x : Int) (hsz : 0 ≤ isz ∧ isz ≤ 496) (hx : i32 x) : CM l X yX7_putWord wsX7_putWord ({ frames := 0, cells := 0, slots := 0, locals := 0 }) [.ref xo, .int (iI x)] ([oX7 xo xi isz xp xh xs sv xr xt xl xa xc, arB X xi 500 (sB T)]) (fun v9 w9 => v9 = none ∧ w9 = [oX7 xo xi (isz + 4) xp xh xs sv xr xt xl xa xc, arB X xi 500 (sB (ty4 T isz x))]) 0 0 := by
  refine lo_enter (cc := cX7_putWord) (maxL := 3) (ret := none) (lv := [(0, .ref xo), (1, .int (iI x))]) (by decide) rfl rfl (Nat.le_of_ble_eq_true rfl) ?_
  intro p9 e9 s9 m9 bl9 me9 c9 A9 ls hAe E hRt hLk hK hl hw
  have Ex := E.1
  have Eb := E.2.1
  have huRX7 : ∀ w ∈ u_ws RX7 TX7 11, w ∈ wsX7_putWord := by decide +kernel
  have hf13 : (Cond.fieldLink RX7 13 "LoanSchedule" "inputSize" "I").before _ s9 = true := E.2.2.2.2 _ (List.mem_of_getElem? (i := 1) rfl)
  have hf9 : (Cond.fieldLink RX7 9 "LoanSchedule" "input" "[B").before _ s9 = true := E.2.2.2.2 _ (List.mem_of_getElem? (i := 2) rfl)
  refine lv_bipush (v := iI 24) Ex Eb dX7_putWord_0 rfl ?_
  refine lv_istore_n (lv' := [(2, .int (iI 24)), (0, .ref xo), (1, .int (iI x))]) Ex Eb dX7_putWord_2 rfl hl (by decide) rfl (fun ls hl => ?_)
  refine lv_iload_n Ex Eb dX7_putWord_3 rfl (lv_at hl 0 rfl) ?_
  refine lo_if_lt (tgt := 46) E dX7_putWord_4 (by decide) (by omega) (fun c1 => ?_) (fun c1 => ?_)
  · exact absurd c1 (by omega)
  · skip
    refine lv_aload_n Ex Eb dX7_putWord_7 rfl (lv_at hl 1 rfl) ?_
    refine lo_get E hK hw huRX7 1 hf13 rfl 0 rfl rfl (by decide) (v := .int (iI isz)) rfl dX7_putWord_8 ?_
    refine lv_sipush (v := iI 500) Ex Eb dX7_putWord_11 rfl ?_
    refine lo_icmp_ge (tgt := 46) E dX7_putWord_14 (by decide) (by omega) (by omega) (fun c2 => ?_) (fun c2 => ?_)
    · exact absurd c2 (by omega)
    · skip
      refine lv_aload_n Ex Eb dX7_putWord_17 rfl (lv_at hl 1 rfl) ?_
      refine lo_get E hK hw huRX7 0 hf9 rfl 0 rfl rfl (by decide) (v := .ref xi) rfl dX7_putWord_18 ?_
      refine lv_aload_n Ex Eb dX7_putWord_21 rfl (lv_at hl 1 rfl) ?_
      refine lo_get E hK hw huRX7 1 hf13 rfl 0 rfl rfl (by decide) (v := .int (iI isz)) rfl dX7_putWord_22 ?_
      refine lv_iload_n Ex Eb dX7_putWord_25 rfl (lv_at hl 2 rfl) ?_
      refine lv_iload_n Ex Eb dX7_putWord_26 rfl (lv_at hl 0 rfl) ?_
      refine lo_ishr (k := 24) E dX7_putWord_27 (by omega) (by decide) ?_
      refine lo_i2b E dX7_putWord_28 ?_
      refine lo_bast E hK hw 1 rfl (by omega) (bI_r _) (ws' := [oX7 xo xi isz xp xh xs sv xr xt xl xa xc, arB X xi 500 (uI (sB T) isz.toNat (bI (x / 2 ^ 24)))]) rfl dX7_putWord_29 (fun H locs hw => ?_)
      refine lv_aload_n Ex Eb dX7_putWord_30 rfl (lv_at hl 1 rfl) ?_
      refine lv_dup Ex Eb dX7_putWord_31 rfl ?_
      refine lo_get E hK hw huRX7 1 hf13 rfl 0 rfl rfl (by decide) (v := .int (iI isz)) rfl dX7_putWord_32 ?_
      refine lv_iconst (v := iI 1) Ex Eb dX7_putWord_35 rfl ?_
      refine lo_iadd E dX7_putWord_36 ?_
      refine lo_put E hK hw huRX7 tyX7 tyX7_ok nmX7 1 hf13 rfl 0 rfl rfl (by decide) rfl rfl rfl rfl (Nat.le_of_ble_eq_true rfl) (ws' := [oX7 xo xi (isz + 1) xp xh xs sv xr xt xl xa xc, arB X xi 500 (uI (sB T) isz.toNat (bI (x / 2 ^ 24)))]) rfl dX7_putWord_37 (fun H locs hw => ?_)
      refine lo_iinc (lv' := [(2, .int (iI (24 + -8))), (0, .ref xo), (1, .int (iI x))]) E dX7_putWord_40 hl (k := 0) rfl (by decide) rfl (fun ls hl => ?_)
      refine lv_goto (tgt := 3) Ex Eb dX7_putWord_43 (by decide) ?_
      refine lv_iload_n Ex Eb dX7_putWord_3 rfl (lv_at hl 0 rfl) ?_
      refine lo_if_lt (tgt := 46) E dX7_putWord_4 (by decide) (by omega) (fun c3 => ?_) (fun c3 => ?_)
      · exact absurd c3 (by omega)
      · skip
        refine lv_aload_n Ex Eb dX7_putWord_7 rfl (lv_at hl 1 rfl) ?_
        refine lo_get E hK hw huRX7 1 hf13 rfl 0 rfl rfl (by decide) (v := .int (iI (isz + 1))) rfl dX7_putWord_8 ?_
        refine lv_sipush (v := iI 500) Ex Eb dX7_putWord_11 rfl ?_
        refine lo_icmp_ge (tgt := 46) E dX7_putWord_14 (by decide) (by omega) (by omega) (fun c4 => ?_) (fun c4 => ?_)
        · exact absurd c4 (by omega)
        · skip
          refine lv_aload_n Ex Eb dX7_putWord_17 rfl (lv_at hl 1 rfl) ?_
          refine lo_get E hK hw huRX7 0 hf9 rfl 0 rfl rfl (by decide) (v := .ref xi) rfl dX7_putWord_18 ?_
          refine lv_aload_n Ex Eb dX7_putWord_21 rfl (lv_at hl 1 rfl) ?_
          refine lo_get E hK hw huRX7 1 hf13 rfl 0 rfl rfl (by decide) (v := .int (iI (isz + 1))) rfl dX7_putWord_22 ?_
          refine lv_iload_n Ex Eb dX7_putWord_25 rfl (lv_at hl 2 rfl) ?_
          refine lv_iload_n Ex Eb dX7_putWord_26 rfl (lv_at hl 0 rfl) ?_
          refine W.eq (g2 := F0 m9 27 ls [.int (iI 16), .int (iI x), .int (iI (isz + 1)), .ref xi]) (by rfl) ?_
          refine lo_ishr (k := 16) E dX7_putWord_27 (by omega) (by decide) ?_
          refine lo_i2b E dX7_putWord_28 ?_
          refine lo_bast E hK hw 1 rfl (by omega) (bI_r _) (ws' := [oX7 xo xi (isz + 1) xp xh xs sv xr xt xl xa xc, arB X xi 500 (uI (uI (sB T) isz.toNat (bI (x / 2 ^ 24))) (isz + 1).toNat (bI (x / 2 ^ 16)))]) rfl dX7_putWord_29 (fun H locs hw => ?_)
          refine lv_aload_n Ex Eb dX7_putWord_30 rfl (lv_at hl 1 rfl) ?_
          refine lv_dup Ex Eb dX7_putWord_31 rfl ?_
          refine lo_get E hK hw huRX7 1 hf13 rfl 0 rfl rfl (by decide) (v := .int (iI (isz + 1))) rfl dX7_putWord_32 ?_
          refine lv_iconst (v := iI 1) Ex Eb dX7_putWord_35 rfl ?_
          refine lo_iadd E dX7_putWord_36 ?_
          refine lo_put E hK hw huRX7 tyX7 tyX7_ok nmX7 1 hf13 rfl 0 rfl rfl (by decide) rfl rfl rfl rfl (Nat.le_of_ble_eq_true rfl) (ws' := [oX7 xo xi ((isz + 1) + 1) xp xh xs sv xr xt xl xa xc, arB X xi 500 (uI (uI (sB T) isz.toNat (bI (x / 2 ^ 24))) (isz + 1).toNat (bI (x / 2 ^ 16)))]) rfl dX7_putWord_37 (fun H locs hw => ?_)
          refine lo_iinc (lv' := [(2, .int (iI ((24 + -8) + -8))), (0, .ref xo), (1, .int (iI x))]) E dX7_putWord_40 hl (k := 0) rfl (by decide) rfl (fun ls hl => ?_)
          refine lv_goto (tgt := 3) Ex Eb dX7_putWord_43 (by decide) ?_
          refine lv_iload_n Ex Eb dX7_putWord_3 rfl (lv_at hl 0 rfl) ?_
          refine lo_if_lt (tgt := 46) E dX7_putWord_4 (by decide) (by omega) (fun c5 => ?_) (fun c5 => ?_)
          · exact absurd c5 (by omega)
          · skip
            refine lv_aload_n Ex Eb dX7_putWord_7 rfl (lv_at hl 1 rfl) ?_
            refine lo_get E hK hw huRX7 1 hf13 rfl 0 rfl rfl (by decide) (v := .int (iI ((isz + 1) + 1))) rfl dX7_putWord_8 ?_
            refine lv_sipush (v := iI 500) Ex Eb dX7_putWord_11 rfl ?_
            refine lo_icmp_ge (tgt := 46) E dX7_putWord_14 (by decide) (by omega) (by omega) (fun c6 => ?_) (fun c6 => ?_)
            · exact absurd c6 (by omega)
            · skip
              refine lv_aload_n Ex Eb dX7_putWord_17 rfl (lv_at hl 1 rfl) ?_
              refine lo_get E hK hw huRX7 0 hf9 rfl 0 rfl rfl (by decide) (v := .ref xi) rfl dX7_putWord_18 ?_
              refine lv_aload_n Ex Eb dX7_putWord_21 rfl (lv_at hl 1 rfl) ?_
              refine lo_get E hK hw huRX7 1 hf13 rfl 0 rfl rfl (by decide) (v := .int (iI ((isz + 1) + 1))) rfl dX7_putWord_22 ?_
              refine lv_iload_n Ex Eb dX7_putWord_25 rfl (lv_at hl 2 rfl) ?_
              refine lv_iload_n Ex Eb dX7_putWord_26 rfl (lv_at hl 0 rfl) ?_
              refine W.eq (g2 := F0 m9 27 ls [.int (iI 8), .int (iI x), .int (iI ((isz + 1) + 1)), .ref xi]) (by rfl) ?_
              refine lo_ishr (k := 8) E dX7_putWord_27 (by omega) (by decide) ?_
              refine lo_i2b E dX7_putWord_28 ?_
              refine lo_bast E hK hw 1 rfl (by omega) (bI_r _) (ws' := [oX7 xo xi ((isz + 1) + 1) xp xh xs sv xr xt xl xa xc, arB X xi 500 (uI (uI (uI (sB T) isz.toNat (bI (x / 2 ^ 24))) (isz + 1).toNat (bI (x / 2 ^ 16))) ((isz + 1) + 1).toNat (bI (x / 2 ^ 8)))]) rfl dX7_putWord_29 (fun H locs hw => ?_)
              refine lv_aload_n Ex Eb dX7_putWord_30 rfl (lv_at hl 1 rfl) ?_
              refine lv_dup Ex Eb dX7_putWord_31 rfl ?_
              refine lo_get E hK hw huRX7 1 hf13 rfl 0 rfl rfl (by decide) (v := .int (iI ((isz + 1) + 1))) rfl dX7_putWord_32 ?_
              refine lv_iconst (v := iI 1) Ex Eb dX7_putWord_35 rfl ?_
              refine lo_iadd E dX7_putWord_36 ?_
              refine lo_put E hK hw huRX7 tyX7 tyX7_ok nmX7 1 hf13 rfl 0 rfl rfl (by decide) rfl rfl rfl rfl (Nat.le_of_ble_eq_true rfl) (ws' := [oX7 xo xi (((isz + 1) + 1) + 1) xp xh xs sv xr xt xl xa xc, arB X xi 500 (uI (uI (uI (sB T) isz.toNat (bI (x / 2 ^ 24))) (isz + 1).toNat (bI (x / 2 ^ 16))) ((isz + 1) + 1).toNat (bI (x / 2 ^ 8)))]) rfl dX7_putWord_37 (fun H locs hw => ?_)
              refine lo_iinc (lv' := [(2, .int (iI (((24 + -8) + -8) + -8))), (0, .ref xo), (1, .int (iI x))]) E dX7_putWord_40 hl (k := 0) rfl (by decide) rfl (fun ls hl => ?_)
              refine lv_goto (tgt := 3) Ex Eb dX7_putWord_43 (by decide) ?_
              refine lv_iload_n Ex Eb dX7_putWord_3 rfl (lv_at hl 0 rfl) ?_
              refine lo_if_lt (tgt := 46) E dX7_putWord_4 (by decide) (by omega) (fun c7 => ?_) (fun c7 => ?_)
              · exact absurd c7 (by omega)
              · skip
                refine lv_aload_n Ex Eb dX7_putWord_7 rfl (lv_at hl 1 rfl) ?_
                refine lo_get E hK hw huRX7 1 hf13 rfl 0 rfl rfl (by decide) (v := .int (iI (((isz + 1) + 1) + 1))) rfl dX7_putWord_8 ?_
                refine lv_sipush (v := iI 500) Ex Eb dX7_putWord_11 rfl ?_
                refine lo_icmp_ge (tgt := 46) E dX7_putWord_14 (by decide) (by omega) (by omega) (fun c8 => ?_) (fun c8 => ?_)
                · exact absurd c8 (by omega)
                · skip
                  refine lv_aload_n Ex Eb dX7_putWord_17 rfl (lv_at hl 1 rfl) ?_
                  refine lo_get E hK hw huRX7 0 hf9 rfl 0 rfl rfl (by decide) (v := .ref xi) rfl dX7_putWord_18 ?_
                  refine lv_aload_n Ex Eb dX7_putWord_21 rfl (lv_at hl 1 rfl) ?_
                  refine lo_get E hK hw huRX7 1 hf13 rfl 0 rfl rfl (by decide) (v := .int (iI (((isz + 1) + 1) + 1))) rfl dX7_putWord_22 ?_
                  refine lv_iload_n Ex Eb dX7_putWord_25 rfl (lv_at hl 2 rfl) ?_
                  refine lv_iload_n Ex Eb dX7_putWord_26 rfl (lv_at hl 0 rfl) ?_
                  refine W.eq (g2 := F0 m9 27 ls [.int (iI 0), .int (iI x), .int (iI (((isz + 1) + 1) + 1)), .ref xi]) (by rfl) ?_
                  refine lo_ishr (k := 0) E dX7_putWord_27 (by omega) (by decide) ?_
                  refine lo_i2b E dX7_putWord_28 ?_
                  refine lo_bast E hK hw 1 rfl (by omega) (bI_r _) (ws' := [oX7 xo xi (((isz + 1) + 1) + 1) xp xh xs sv xr xt xl xa xc, arB X xi 500 (uI (uI (uI (uI (sB T) isz.toNat (bI (x / 2 ^ 24))) (isz + 1).toNat (bI (x / 2 ^ 16))) ((isz + 1) + 1).toNat (bI (x / 2 ^ 8))) (((isz + 1) + 1) + 1).toNat (bI (x / 2 ^ 0)))]) rfl dX7_putWord_29 (fun H locs hw => ?_)
                  refine lv_aload_n Ex Eb dX7_putWord_30 rfl (lv_at hl 1 rfl) ?_
                  refine lv_dup Ex Eb dX7_putWord_31 rfl ?_
                  refine lo_get E hK hw huRX7 1 hf13 rfl 0 rfl rfl (by decide) (v := .int (iI (((isz + 1) + 1) + 1))) rfl dX7_putWord_32 ?_
                  refine lv_iconst (v := iI 1) Ex Eb dX7_putWord_35 rfl ?_
                  refine lo_iadd E dX7_putWord_36 ?_
                  refine lo_put E hK hw huRX7 tyX7 tyX7_ok nmX7 1 hf13 rfl 0 rfl rfl (by decide) rfl rfl rfl rfl (Nat.le_of_ble_eq_true rfl) (ws' := [oX7 xo xi ((((isz + 1) + 1) + 1) + 1) xp xh xs sv xr xt xl xa xc, arB X xi 500 (uI (uI (uI (uI (sB T) isz.toNat (bI (x / 2 ^ 24))) (isz + 1).toNat (bI (x / 2 ^ 16))) ((isz + 1) + 1).toNat (bI (x / 2 ^ 8))) (((isz + 1) + 1) + 1).toNat (bI (x / 2 ^ 0)))]) rfl dX7_putWord_37 (fun H locs hw => ?_)
                  refine lo_iinc (lv' := [(2, .int (iI ((((24 + -8) + -8) + -8) + -8))), (0, .ref xo), (1, .int (iI x))]) E dX7_putWord_40 hl (k := 0) rfl (by decide) rfl (fun ls hl => ?_)
                  refine lv_goto (tgt := 3) Ex Eb dX7_putWord_43 (by decide) ?_
                  refine lv_iload_n Ex Eb dX7_putWord_3 rfl (lv_at hl 0 rfl) ?_
                  refine lo_if_lt (tgt := 46) E dX7_putWord_4 (by decide) (by omega) (fun c9 => ?_) (fun c9 => ?_)
                  · skip
                    exact lo_vret E hRt hLk hK hAe hw dX7_putWord_46 rfl ⟨rfl, by first | (exfalso; omega) | (rw [ty4_b hsz.1 hx, show isz + 1 + 1 + 1 + 1 = isz + 4 by omega]; try rfl)⟩
                  · exact absurd c9 (by omega)
