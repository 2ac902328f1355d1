set_option maxHeartbeats 4000000 in
set_option maxRecDepth 100000 in
theorem kX4_put (l : Launch) (X : KX) (r rb : Nat) (rs : Int) (B : Nat → Int) (k : Int) (hrs : 0 ≤ rs ∧ rs < 256) (hk : 0 ≤ k ∧ k ≤ 127) : CM l X yX4_put wsX4_put ({ frames := 0, cells := 0, slots := 0, locals := 0 }) [.ref r, .int (iI k)] ([oX4 r rb rs, arB X rb 256 B]) (fun v9 w9 => v9 = none ∧ w9 = [oX4 r rb (rs + 1), arB X rb 256 (uI B rs.toNat k)]) 0 0 := by
  refine lo_enter (cc := cX4_put) (maxL := 2) (ret := none) (lv := [(0, .ref r), (1, .int (iI k))]) (by decide) rfl rfl (Nat.le_of_ble_eq_true rfl) ?_
  intro p9 e9 s9 m9 bl9 me9 c9 A9 ls hAe E hRt hLk hK hl hw
  have Ex := E.1
  have Eb := E.2.1
  have huRX4 : ∀ w ∈ u_ws RX4 TX4 2, w ∈ wsX4_put := by decide +kernel
  have hf13 : (Cond.fieldLink RX4 13 "LoanSchedule$Report" "size" "I").before _ s9 = true := E.2.2.2.2 _ (List.mem_of_getElem? (i := 1) rfl)
  have hf9 : (Cond.fieldLink RX4 9 "LoanSchedule$Report" "bytes" "[B").before _ s9 = true := E.2.2.2.2 _ (List.mem_of_getElem? (i := 2) rfl)
  refine lv_aload_n Ex Eb dX4_put_0 rfl (lv_at hl 0 rfl) ?_
  refine lo_get E hK hw huRX4 1 hf13 rfl 0 rfl rfl (by decide) (v := .int (iI rs)) rfl dX4_put_1 ?_
  refine lo_if_lt (tgt := 38) E dX4_put_4 (by decide) (by omega) (fun c1 => ?_) (fun c1 => ?_)
  · exact absurd c1 (by omega)
  · skip
    refine lv_aload_n Ex Eb dX4_put_7 rfl (lv_at hl 0 rfl) ?_
    refine lo_get E hK hw huRX4 1 hf13 rfl 0 rfl rfl (by decide) (v := .int (iI rs)) rfl dX4_put_8 ?_
    refine lv_sipush (v := iI 256) Ex Eb dX4_put_11 rfl ?_
    refine lo_icmp_ge (tgt := 38) E dX4_put_14 (by decide) (by omega) (by omega) (fun c2 => ?_) (fun c2 => ?_)
    · exact absurd c2 (by omega)
    · skip
      refine lv_aload_n Ex Eb dX4_put_17 rfl (lv_at hl 0 rfl) ?_
      refine lo_get E hK hw huRX4 0 hf9 rfl 0 rfl rfl (by decide) (v := .ref rb) rfl dX4_put_18 ?_
      refine lv_aload_n Ex Eb dX4_put_21 rfl (lv_at hl 0 rfl) ?_
      refine lo_get E hK hw huRX4 1 hf13 rfl 0 rfl rfl (by decide) (v := .int (iI rs)) rfl dX4_put_22 ?_
      refine lv_iload_n Ex Eb dX4_put_25 rfl (lv_at hl 1 rfl) ?_
      refine lo_i2b E dX4_put_26 ?_
      refine lo_bast E hK hw 1 rfl (by omega) (bI_r _) (ws' := [oX4 r rb rs, arB X rb 256 (uI B rs.toNat (bI k))]) rfl dX4_put_27 (fun H locs hw => ?_)
      refine lv_aload_n Ex Eb dX4_put_28 rfl (lv_at hl 0 rfl) ?_
      refine lv_dup Ex Eb dX4_put_29 rfl ?_
      refine lo_get E hK hw huRX4 1 hf13 rfl 0 rfl rfl (by decide) (v := .int (iI rs)) rfl dX4_put_30 ?_
      refine lv_iconst (v := iI 1) Ex Eb dX4_put_33 rfl ?_
      refine lo_iadd E dX4_put_34 ?_
      refine lo_put E hK hw huRX4 tyX4 tyX4_ok nmX4 1 hf13 rfl 0 rfl rfl (by decide) rfl rfl rfl rfl (Nat.le_of_ble_eq_true rfl) (ws' := [oX4 r rb (rs + 1), arB X rb 256 (uI B rs.toNat (bI k))]) rfl dX4_put_35 (fun H locs hw => ?_)
      exact lo_vret E hRt hLk hK hAe hw dX4_put_38 rfl ⟨rfl, by rw [bI_id (show -128 ≤ k ∧ k ≤ 127 by omega)]⟩
