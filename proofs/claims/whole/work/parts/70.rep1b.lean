set_option maxHeartbeats 4000000 in
set_option maxRecDepth 100000 in
theorem kX4_putNumber (l : Launch) (X : KX) (r rb : Nat) (rs : Int) (B : Nat → Int) (v : Int) (hrs : 0 ≤ rs ∧ rs ≤ 248) (hv : 0 ≤ v ∧ v ≤ 99999999) : CM l X yX4_putNumber wsX4_putNumber ({ frames := 1, cells := 0, slots := 0, locals := 21 }) [.ref r, .int (iI v)] ([oX4 r rb rs, arB X rb 256 B]) (fun v9 w9 => v9 = none ∧ w9 = [oX4 r rb (rs + dgN v), arB X rb 256 (wrL B rs (dgs v))]) 0 0 := by
  refine lo_enter (cc := cX4_putNumber) (maxL := 4) (ret := none) (lv := [(0, .ref r), (1, .int (iI v))]) (by decide) rfl rfl (Nat.le_of_ble_eq_true rfl) ?_
  intro p9 e9 s9 m9 bl9 me9 c9 A9 ls hAe E hRt hLk hK hl hw
  have Ex := E.1
  have Eb := E.2.1
  refine lv_iconst (v := iI 1) Ex Eb dX4_putNumber_0 rfl ?_
  refine lv_istore_n (lv' := [(2, .int (iI 1)), (0, .ref r), (1, .int (iI v))]) Ex Eb dX4_putNumber_1 rfl hl (by decide) rfl (fun ls hl => ?_)
  refine lv_iconst (v := iI 0) Ex Eb dX4_putNumber_2 rfl ?_
  refine lv_istore_n (lv' := [(3, .int (iI 0)), (2, .int (iI 1)), (0, .ref r), (1, .int (iI v))]) Ex Eb dX4_putNumber_3 rfl hl (by decide) rfl (fun ls hl => ?_)
  have lp4 : ∀ (n : Nat) (u n8 ix : Int), (9 - ix).toNat < n → (UN u n8) → (0 < u ∧ 0 ≤ ix ∧ ix + 1 = n8) → (u = 1 ∨ u ≤ v) → ∀ (H : Heap) (locs : List Loc) (ls : Array Slot), lo_Wd X ([oX4 r rb rs, arB X rb 256 B]) A9 s9.heap H locs → lv_has ls 4 [(0, .ref r), (1, .int (iI v)), (2, .int (iI u)), (3, .int (iI ix))] → W p9 l e9 ({ frames := 1, cells := 0, slots := 0, locals := 21 } : Room) s9 m9 ([.ref r, .int (iI v)] : List Value).toArray bl9 me9 c9 H locs 0 0 (MQ bl9 (lo_Qc X ([oX4 r rb rs, arB X rb 256 B]) s9.heap.size (fun v9 w9 => v9 = none ∧ w9 = [oX4 r rb (rs + dgN v), arB X rb 256 (wrL B rs (dgs v))])) ([.ref r, .int (iI v)] : List Value).toArray s9 0 0 A9) (F0 m9 4 ls []) := by
    intro n
    induction n with
    | zero => intro u n8 ix hn; exact absurd hn (Nat.not_lt_zero _)
    | succ n ih4 =>
      intro u n8 ix hn4 iv4_0 iv4_1 iv4_2 H locs ls hw hl
      have hur := UN_r iv4_0
      refine lv_iload_n Ex Eb dX4_putNumber_4 rfl (lv_at hl 3 rfl) ?_
      refine lv_bipush (v := iI 9) Ex Eb dX4_putNumber_5 rfl ?_
      refine lo_icmp_ge (tgt := 29) E dX4_putNumber_7 (by decide) (by omega) (by omega) (fun c1 => ?_) (fun c1 => ?_)
      · exact absurd c1 (by omega)
      · skip
        refine lv_iload_n Ex Eb dX4_putNumber_10 rfl (lv_at hl 1 rfl) ?_
        refine lv_bipush (v := iI 10) Ex Eb dX4_putNumber_11 rfl ?_
        refine lo_idiv E dX4_putNumber_13 (by omega) (by omega) ?_
        refine lv_iload_n Ex Eb dX4_putNumber_14 rfl (lv_at hl 2 rfl) ?_
        refine lo_icmp_lt (tgt := 29) E dX4_putNumber_15 (by decide) (by omega) (by omega) (fun c2 => ?_) (fun c2 => ?_)
        · skip
          have lp29 : ∀ (n : Nat) (C : Nat → Int) (y n9 q : Int), n9.toNat < n → (UN y n9) → (wrL C q (dgU v n9.toNat y) = wrL B rs (dgs v)) → (q + n9 = rs + dgN v ∧ rs ≤ q ∧ dgN v ≤ 8) → ∀ (H : Heap) (locs : List Loc) (ls : Array Slot), lo_Wd X ([oX4 r rb q, arB X rb 256 C]) A9 s9.heap H locs → lv_has ls 4 [(0, .ref r), (1, .int (iI v)), (2, .int (iI y))] → W p9 l e9 ({ frames := 1, cells := 0, slots := 0, locals := 21 } : Room) s9 m9 ([.ref r, .int (iI v)] : List Value).toArray bl9 me9 c9 H locs 0 0 (MQ bl9 (lo_Qc X ([oX4 r rb rs, arB X rb 256 B]) s9.heap.size (fun v9 w9 => v9 = none ∧ w9 = [oX4 r rb (rs + dgN v), arB X rb 256 (wrL B rs (dgs v))])) ([.ref r, .int (iI v)] : List Value).toArray s9 0 0 A9) (F0 m9 29 ls []) := by
            intro n
            induction n with
            | zero => intro C y n9 q hn; exact absurd hn (Nat.not_lt_zero _)
            | succ n ih29 =>
              intro C y n9 q hn29 iv29_0 iv29_1 iv29_2 H locs ls hw hl
              have hyr := UN_r iv29_0
              have hys := UN_s iv29_0
              have hdv := fun (h : 0 < y) => lo_ediv_r (a := v) (b := y) hv.1 h
              refine lv_iload_n Ex Eb dX4_putNumber_29 rfl (lv_at hl 2 rfl) ?_
              refine lo_if_le (tgt := 55) E dX4_putNumber_30 (by decide) (by omega) (fun c3 => ?_) (fun c3 => ?_)
              · skip
                have hn9 : n9 = 0 := by omega
                have hC9 : C = wrL B rs (dgs v) := by rw [← iv29_1, hn9]; rfl
                exact lo_vret E hRt hLk hK hAe hw dX4_putNumber_55 rfl ⟨rfl, by rw [hC9, show q = rs + dgN v by omega]⟩
              · skip
                have hdy := hdv (by omega)
                refine lv_aload_n Ex Eb dX4_putNumber_33 rfl (lv_at hl 0 rfl) ?_
                refine lv_bipush (v := iI 48) Ex Eb dX4_putNumber_34 rfl ?_
                refine lv_iload_n Ex Eb dX4_putNumber_36 rfl (lv_at hl 1 rfl) ?_
                refine lv_iload_n Ex Eb dX4_putNumber_37 rfl (lv_at hl 2 rfl) ?_
                refine lo_idiv E dX4_putNumber_38 (by omega) (by omega) ?_
                refine lv_bipush (v := iI 10) Ex Eb dX4_putNumber_39 rfl ?_
                refine lo_irem E dX4_putNumber_41 (by omega) (by omega) ?_
                refine lo_iadd E dX4_putNumber_42 ?_
                refine lo_i2c E dX4_putNumber_43 (by omega) ?_
                refine lo_callV (q0 := 0) (rest := []) E hK hw (kX4_put l X r rb q C (48 + ((v / y) % 10)) (by omega) (by omega)) (cwV 1 E.2.2.2.2 gX4_putNumber_X4_put rfl rfl rfl (by decide +kernel) ⟨Nat.le_of_ble_eq_true rfl, Nat.le_of_ble_eq_true rfl⟩) rfl rfl [0, 1] rfl (by decide) hl.1 rfl rfl (Nat.le_of_ble_eq_true rfl) dX4_putNumber_44 ⟨Nat.le_of_ble_eq_true rfl, Nat.le_of_ble_eq_true rfl⟩ (fun v w1 H locs hq hw => ?_)
                obtain ⟨rfl, rfl⟩ := hq
                have hw : lo_Wd X ([oX4 r rb (q + 1), arB X rb 256 (uI C q.toNat (48 + ((v / y) % 10)))]) A9 s9.heap H locs := hw
                refine W.eq (g2 := F0 m9 47 ls []) rfl ?_
                refine lv_iload_n Ex Eb dX4_putNumber_47 rfl (lv_at hl 2 rfl) ?_
                refine lv_bipush (v := iI 10) Ex Eb dX4_putNumber_48 rfl ?_
                refine lo_idiv E dX4_putNumber_50 (by omega) (by omega) ?_
                refine lv_istore_n (lv' := [(2, .int (iI (y / 10))), (0, .ref r), (1, .int (iI v))]) Ex Eb dX4_putNumber_51 rfl hl (by decide) rfl (fun ls hl => ?_)
                refine lv_goto (tgt := 29) Ex Eb dX4_putNumber_52 (by decide) ?_
                exact ih29 (uI C q.toNat (48 + ((v / y) % 10))) (y / 10) (n9 - 1) (q + 1) (by omega) ((hys (by omega)).1) (by rw [← iv29_1, dgU_s (show 1 ≤ n9 by omega)]; rfl) (by omega) _ _ _ hw (lv_sub hl [1, 2, 0] rfl)
          have hvu : v / 10 < u := by omega
          exact lp29 _ B u n8 rs (Nat.lt_succ_self _) (iv4_0) (by rw [dgs_u hv.1 hv.2 iv4_0 (by omega) iv4_2 hvu]) (by have h1 := dgs_n hv.1 hv.2 iv4_0 (by omega) iv4_2 hvu; have h2 := dgN_r v; omega) _ _ _ hw (lv_sub hl [0, 1, 2] rfl)
        · skip
          refine lv_iload_n Ex Eb dX4_putNumber_18 rfl (lv_at hl 2 rfl) ?_
          refine lv_bipush (v := iI 10) Ex Eb dX4_putNumber_19 rfl ?_
          refine lo_imul E dX4_putNumber_21 ?_
          refine lv_istore_n (lv' := [(2, .int (iI (u * 10))), (0, .ref r), (1, .int (iI v)), (3, .int (iI ix))]) Ex Eb dX4_putNumber_22 rfl hl (by decide) rfl (fun ls hl => ?_)
          refine lo_iinc (lv' := [(3, .int (iI (ix + 1))), (2, .int (iI (u * 10))), (0, .ref r), (1, .int (iI v))]) E dX4_putNumber_23 hl (k := 3) rfl (by decide) rfl (fun ls hl => ?_)
          refine lv_goto (tgt := 4) Ex Eb dX4_putNumber_26 (by decide) ?_
          exact ih4 (u * 10) (n8 + 1) (ix + 1) (by omega) (UN_up (v := v) iv4_0 (by omega) (by omega) (by omega)) (by omega) (by omega) _ _ _ hw (lv_sub hl [2, 3, 1, 0] rfl)
  exact lp4 _ 1 1 0 (Nat.lt_succ_self _) (UN_1) (by omega) (by omega) _ _ _ hw (lv_sub hl [2, 3, 1, 0] rfl)
set_option maxHeartbeats 4000000 in
set_option maxRecDepth 100000 in
theorem kX4_putPayment (l : Launch) (X : KX) (r rb : Nat) (rs : Int) (B : Nat → Int) (v it cl : Int) (hrs : 0 ≤ rs ∧ rs ≤ 238) (hv : 0 ≤ v ∧ v ≤ 99999999) (hit : 0 ≤ it ∧ it ≤ 99999999) (hcl : cl = 0 ∨ cl = 1) : CM l X yX4_putPayment wsX4_putPayment ({ frames := 2, cells := 0, slots := 0, locals := 44 }) [.ref r, .int (iI v), .int (iI it), .int (iI cl)] ([oX4 r rb rs, arB X rb 256 B]) (fun v9 w9 => v9 = none ∧ w9 = [oX4 r rb (rs + pmN v it cl), arB X rb 256 (wrL B rs (pmF v it cl))]) 0 0 := by
  refine lo_enter (cc := cX4_putPayment) (maxL := 4) (ret := none) (lv := [(0, .ref r), (1, .int (iI v)), (2, .int (iI it)), (3, .int (iI cl))]) (by decide) rfl rfl (Nat.le_of_ble_eq_true rfl) ?_
  intro p9 e9 s9 m9 bl9 me9 c9 A9 ls hAe E hRt hLk hK hl hw
  have Ex := E.1
  have Eb := E.2.1
  have hd1 := dgN_r v
  have hd2 := dgN_r it
  refine lv_aload_n Ex Eb dX4_putPayment_0 rfl (lv_at hl 0 rfl) ?_
  refine lv_iload_n Ex Eb dX4_putPayment_1 rfl (lv_at hl 1 rfl) ?_
  refine lo_callV (q0 := 0) (rest := []) E hK hw (kX4_putNumber l X r rb rs B v (by omega) (by omega)) (cwV 1 E.2.2.2.2 gX4_putPayment_X4_putNumber rfl rfl rfl (by decide +kernel) ⟨Nat.le_of_ble_eq_true rfl, Nat.le_of_ble_eq_true rfl⟩) rfl rfl [0, 1] rfl (by decide) hl.1 rfl rfl (Nat.le_of_ble_eq_true rfl) dX4_putPayment_2 ⟨Nat.le_of_ble_eq_true rfl, Nat.le_of_ble_eq_true rfl⟩ (fun v w1 H locs hq hw => ?_)
  obtain ⟨rfl, rfl⟩ := hq
  have hw : lo_Wd X ([oX4 r rb (rs + dgN v), arB X rb 256 (wrL B rs (dgs v))]) A9 s9.heap H locs := hw
  refine W.eq (g2 := F0 m9 5 ls []) rfl ?_
  refine lv_iload_n Ex Eb dX4_putPayment_5 rfl (lv_at hl 2 rfl) ?_
  refine lo_if_eq (tgt := 20) E dX4_putPayment_6 (by decide) (by omega) (fun c1 => ?_) (fun c1 => ?_)
  · skip
    refine lv_iload_n Ex Eb dX4_putPayment_20 rfl (lv_at hl 3 rfl) ?_
    refine lo_if_eq (tgt := 30) E dX4_putPayment_21 (by decide) (by omega) (fun c2 => ?_) (fun c2 => ?_)
    · skip
      exact lo_vret E hRt hLk hK hAe hw dX4_putPayment_30 rfl ⟨rfl, by first | (exfalso; omega) | (have hp := pmW_nn (B := B) (n := rs) (a := v) (it := it) (cl := cl) (by omega) (by omega); rw [hp.1, hp.2]) | (have hp := pmW_ny (B := B) (n := rs) (a := v) (it := it) (cl := cl) (by omega) (by omega); rw [hp.1, hp.2]) | (have hp := pmW_yn (B := B) (n := rs) (a := v) (it := it) (cl := cl) (by omega) (by omega); rw [hp.1, hp.2]) | (have hp := pmW_yy (B := B) (n := rs) (a := v) (it := it) (cl := cl) (by omega) (by omega); rw [hp.1, hp.2])⟩
    · skip
      refine lv_aload_n Ex Eb dX4_putPayment_24 rfl (lv_at hl 0 rfl) ?_
      refine lv_bipush (v := iI 33) Ex Eb dX4_putPayment_25 rfl ?_
      refine lo_callV (q0 := 0) (rest := []) E hK hw (kX4_put l X r rb (rs + dgN v) (wrL B rs (dgs v)) 33 (by omega) (by omega)) (cwV 1 E.2.2.2.2 gX4_putPayment_X4_put rfl rfl rfl (by decide +kernel) ⟨Nat.le_of_ble_eq_true rfl, Nat.le_of_ble_eq_true rfl⟩) rfl rfl [0, 1] rfl (by decide) hl.1 rfl rfl (Nat.le_of_ble_eq_true rfl) dX4_putPayment_27 ⟨Nat.le_of_ble_eq_true rfl, Nat.le_of_ble_eq_true rfl⟩ (fun v w1 H locs hq hw => ?_)
      obtain ⟨rfl, rfl⟩ := hq
      have hw : lo_Wd X ([oX4 r rb ((rs + dgN v) + 1), arB X rb 256 (uI (wrL B rs (dgs v)) (rs + dgN v).toNat 33)]) A9 s9.heap H locs := hw
      refine W.eq (g2 := F0 m9 30 ls []) rfl ?_
      exact lo_vret E hRt hLk hK hAe hw dX4_putPayment_30 rfl ⟨rfl, by first | (exfalso; omega) | (have hp := pmW_nn (B := B) (n := rs) (a := v) (it := it) (cl := cl) (by omega) (by omega); rw [hp.1, hp.2]) | (have hp := pmW_ny (B := B) (n := rs) (a := v) (it := it) (cl := cl) (by omega) (by omega); rw [hp.1, hp.2]) | (have hp := pmW_yn (B := B) (n := rs) (a := v) (it := it) (cl := cl) (by omega) (by omega); rw [hp.1, hp.2]) | (have hp := pmW_yy (B := B) (n := rs) (a := v) (it := it) (cl := cl) (by omega) (by omega); rw [hp.1, hp.2])⟩
  · skip
    refine lv_aload_n Ex Eb dX4_putPayment_9 rfl (lv_at hl 0 rfl) ?_
    refine lv_bipush (v := iI 43) Ex Eb dX4_putPayment_10 rfl ?_
    refine lo_callV (q0 := 0) (rest := []) E hK hw (kX4_put l X r rb (rs + dgN v) (wrL B rs (dgs v)) 43 (by omega) (by omega)) (cwV 1 E.2.2.2.2 gX4_putPayment_X4_put rfl rfl rfl (by decide +kernel) ⟨Nat.le_of_ble_eq_true rfl, Nat.le_of_ble_eq_true rfl⟩) rfl rfl [0, 1] rfl (by decide) hl.1 rfl rfl (Nat.le_of_ble_eq_true rfl) dX4_putPayment_12 ⟨Nat.le_of_ble_eq_true rfl, Nat.le_of_ble_eq_true rfl⟩ (fun v w1 H locs hq hw => ?_)
    obtain ⟨rfl, rfl⟩ := hq
    have hw : lo_Wd X ([oX4 r rb ((rs + dgN v) + 1), arB X rb 256 (uI (wrL B rs (dgs v)) (rs + dgN v).toNat 43)]) A9 s9.heap H locs := hw
    refine W.eq (g2 := F0 m9 15 ls []) rfl ?_
    refine lv_aload_n Ex Eb dX4_putPayment_15 rfl (lv_at hl 0 rfl) ?_
    refine lv_iload_n Ex Eb dX4_putPayment_16 rfl (lv_at hl 2 rfl) ?_
    refine lo_callV (q0 := 0) (rest := []) E hK hw (kX4_putNumber l X r rb ((rs + dgN v) + 1) (uI (wrL B rs (dgs v)) (rs + dgN v).toNat 43) it (by omega) (by omega)) (cwV 1 E.2.2.2.2 gX4_putPayment_X4_putNumber rfl rfl rfl (by decide +kernel) ⟨Nat.le_of_ble_eq_true rfl, Nat.le_of_ble_eq_true rfl⟩) rfl rfl [0, 1] rfl (by decide) hl.1 rfl rfl (Nat.le_of_ble_eq_true rfl) dX4_putPayment_17 ⟨Nat.le_of_ble_eq_true rfl, Nat.le_of_ble_eq_true rfl⟩ (fun v w1 H locs hq hw => ?_)
    obtain ⟨rfl, rfl⟩ := hq
    have hw : lo_Wd X ([oX4 r rb (((rs + dgN v) + 1) + dgN it), arB X rb 256 (wrL (uI (wrL B rs (dgs v)) (rs + dgN v).toNat 43) ((rs + dgN v) + 1) (dgs it))]) A9 s9.heap H locs := hw
    refine W.eq (g2 := F0 m9 20 ls []) rfl ?_
    refine lv_iload_n Ex Eb dX4_putPayment_20 rfl (lv_at hl 3 rfl) ?_
    refine lo_if_eq (tgt := 30) E dX4_putPayment_21 (by decide) (by omega) (fun c3 => ?_) (fun c3 => ?_)
    · skip
      exact lo_vret E hRt hLk hK hAe hw dX4_putPayment_30 rfl ⟨rfl, by first | (exfalso; omega) | (have hp := pmW_nn (B := B) (n := rs) (a := v) (it := it) (cl := cl) (by omega) (by omega); rw [hp.1, hp.2]) | (have hp := pmW_ny (B := B) (n := rs) (a := v) (it := it) (cl := cl) (by omega) (by omega); rw [hp.1, hp.2]) | (have hp := pmW_yn (B := B) (n := rs) (a := v) (it := it) (cl := cl) (by omega) (by omega); rw [hp.1, hp.2]) | (have hp := pmW_yy (B := B) (n := rs) (a := v) (it := it) (cl := cl) (by omega) (by omega); rw [hp.1, hp.2])⟩
    · skip
      refine lv_aload_n Ex Eb dX4_putPayment_24 rfl (lv_at hl 0 rfl) ?_
      refine lv_bipush (v := iI 33) Ex Eb dX4_putPayment_25 rfl ?_
      refine lo_callV (q0 := 0) (rest := []) E hK hw (kX4_put l X r rb (((rs + dgN v) + 1) + dgN it) (wrL (uI (wrL B rs (dgs v)) (rs + dgN v).toNat 43) ((rs + dgN v) + 1) (dgs it)) 33 (by omega) (by omega)) (cwV 1 E.2.2.2.2 gX4_putPayment_X4_put rfl rfl rfl (by decide +kernel) ⟨Nat.le_of_ble_eq_true rfl, Nat.le_of_ble_eq_true rfl⟩) rfl rfl [0, 1] rfl (by decide) hl.1 rfl rfl (Nat.le_of_ble_eq_true rfl) dX4_putPayment_27 ⟨Nat.le_of_ble_eq_true rfl, Nat.le_of_ble_eq_true rfl⟩ (fun v w1 H locs hq hw => ?_)
      obtain ⟨rfl, rfl⟩ := hq
      have hw : lo_Wd X ([oX4 r rb ((((rs + dgN v) + 1) + dgN it) + 1), arB X rb 256 (uI (wrL (uI (wrL B rs (dgs v)) (rs + dgN v).toNat 43) ((rs + dgN v) + 1) (dgs it)) (((rs + dgN v) + 1) + dgN it).toNat 33)]) A9 s9.heap H locs := hw
      refine W.eq (g2 := F0 m9 30 ls []) rfl ?_
      exact lo_vret E hRt hLk hK hAe hw dX4_putPayment_30 rfl ⟨rfl, by first | (exfalso; omega) | (have hp := pmW_nn (B := B) (n := rs) (a := v) (it := it) (cl := cl) (by omega) (by omega); rw [hp.1, hp.2]) | (have hp := pmW_ny (B := B) (n := rs) (a := v) (it := it) (cl := cl) (by omega) (by omega); rw [hp.1, hp.2]) | (have hp := pmW_yn (B := B) (n := rs) (a := v) (it := it) (cl := cl) (by omega) (by omega); rw [hp.1, hp.2]) | (have hp := pmW_yy (B := B) (n := rs) (a := v) (it := it) (cl := cl) (by omega) (by omega); rw [hp.1, hp.2])⟩
