set_option maxHeartbeats 4000000 in
set_option maxRecDepth 100000 in
theorem kX8_sayNumber (l : Launch) (X : KX) (d : Nat → Nat) (M B : Nat → Int) (v : Int) (hrs : 0 ≤ M 11 ∧ M 11 ≤ 292) (hv : 0 ≤ v ∧ v ≤ 99999999) : CM l X yX8_sayNumber wsX8_sayNumber ({ frames := 1, cells := 0, slots := 0, locals := 21 }) [.ref (d 0), .int (iI v)] ([oX8 (d 0) (M 0) (d 1) (d 2) (M 3) (d 3) (M 5) (d 4) (d 5) (d 6) (M 9) (d 7) (M 11) (M 12) (M 13) (M 14) (M 15) (M 16) (M 17) (M 18) (M 19) (M 20) (M 21) (M 22) (M 23) (M 24) (M 25) (M 26) (M 27) (M 28), arB X (d 7) 300 B]) (fun v9 w9 => v9 = none ∧ w9 = [oX8 (d 0) (M 0) (d 1) (d 2) (M 3) (d 3) (M 5) (d 4) (d 5) (d 6) (M 9) (d 7) (M 11 + dgN v) (M 12) (M 13) (M 14) (M 15) (M 16) (M 17) (M 18) (M 19) (M 20) (M 21) (M 22) (M 23) (M 24) (M 25) (M 26) (M 27) (M 28), arB X (d 7) 300 (wrL B (M 11) (dgs v))]) 0 0 := by
  refine lo_enter (cc := cX8_sayNumber) (maxL := 3) (ret := none) (lv := [(0, .ref (d 0)), (1, .int (iI v))]) (by decide) rfl rfl (Nat.le_of_ble_eq_true rfl) ?_
  intro p9 e9 s9 m9 bl9 me9 c9 A9 ls hAe E hRt hLk hK hl hw
  have Ex := E.1
  have Eb := E.2.1
  refine lv_iconst (v := iI 1) Ex Eb dX8_sayNumber_0 rfl ?_
  refine lv_istore_n (lv' := [(2, .int (iI 1)), (0, .ref (d 0)), (1, .int (iI v))]) Ex Eb dX8_sayNumber_1 rfl hl (by decide) rfl (fun ls hl => ?_)
  have lp2 : ∀ (n : Nat) (u n8 : Int), (9 - n8).toNat < n → (UN u n8) → (0 < u) → (u = 1 ∨ u ≤ v) → ∀ (H : Heap) (locs : List Loc) (ls : Array Slot), lo_Wd X ([oX8 (d 0) (M 0) (d 1) (d 2) (M 3) (d 3) (M 5) (d 4) (d 5) (d 6) (M 9) (d 7) (M 11) (M 12) (M 13) (M 14) (M 15) (M 16) (M 17) (M 18) (M 19) (M 20) (M 21) (M 22) (M 23) (M 24) (M 25) (M 26) (M 27) (M 28), arB X (d 7) 300 B]) A9 s9.heap H locs → lv_has ls 3 [(0, .ref (d 0)), (1, .int (iI v)), (2, .int (iI u))] → W p9 l e9 ({ frames := 1, cells := 0, slots := 0, locals := 21 } : Room) s9 m9 ([.ref (d 0), .int (iI v)] : List Value).toArray bl9 me9 c9 H locs 0 0 (MQ bl9 (lo_Qc X ([oX8 (d 0) (M 0) (d 1) (d 2) (M 3) (d 3) (M 5) (d 4) (d 5) (d 6) (M 9) (d 7) (M 11) (M 12) (M 13) (M 14) (M 15) (M 16) (M 17) (M 18) (M 19) (M 20) (M 21) (M 22) (M 23) (M 24) (M 25) (M 26) (M 27) (M 28), arB X (d 7) 300 B]) s9.heap.size (fun v9 w9 => v9 = none ∧ w9 = [oX8 (d 0) (M 0) (d 1) (d 2) (M 3) (d 3) (M 5) (d 4) (d 5) (d 6) (M 9) (d 7) (M 11 + dgN v) (M 12) (M 13) (M 14) (M 15) (M 16) (M 17) (M 18) (M 19) (M 20) (M 21) (M 22) (M 23) (M 24) (M 25) (M 26) (M 27) (M 28), arB X (d 7) 300 (wrL B (M 11) (dgs v))])) ([.ref (d 0), .int (iI v)] : List Value).toArray s9 0 0 A9) (F0 m9 2 ls []) := by
    intro n
    induction n with
    | zero => intro u n8 hn; exact absurd hn (Nat.not_lt_zero _)
    | succ n ih2 =>
      intro u n8 hn2 iv2_0 iv2_1 iv2_2 H locs ls hw hl
      have hur := UN_r iv2_0
      have hud := UN_div (v := v) iv2_0 iv2_1 hv.1
      have hdv := lo_ediv_r (a := v) (b := u) hv.1 iv2_1
      refine lv_iload_n Ex Eb dX8_sayNumber_2 rfl (lv_at hl 1 rfl) ?_
      refine lv_iload_n Ex Eb dX8_sayNumber_3 rfl (lv_at hl 2 rfl) ?_
      refine lo_idiv E dX8_sayNumber_4 (by omega) (by omega) ?_
      refine lv_bipush (v := iI 9) Ex Eb dX8_sayNumber_5 rfl ?_
      refine lo_icmp_le (tgt := 18) E dX8_sayNumber_7 (by decide) (by omega) (by omega) (fun c1 => ?_) (fun c1 => ?_)
      · skip
        have lp18 : ∀ (n : Nat) (C : Nat → Int) (y n9 q : Int), n9.toNat < n → (UN y n9) → (wrL C q (dgU v n9.toNat y) = wrL B (M 11) (dgs v)) → (q + n9 = (M 11) + dgN v ∧ (M 11) ≤ q ∧ dgN v ≤ 8) → ∀ (H : Heap) (locs : List Loc) (ls : Array Slot), lo_Wd X ([oX8 (d 0) (M 0) (d 1) (d 2) (M 3) (d 3) (M 5) (d 4) (d 5) (d 6) (M 9) (d 7) q (M 12) (M 13) (M 14) (M 15) (M 16) (M 17) (M 18) (M 19) (M 20) (M 21) (M 22) (M 23) (M 24) (M 25) (M 26) (M 27) (M 28), arB X (d 7) 300 C]) A9 s9.heap H locs → lv_has ls 3 [(0, .ref (d 0)), (1, .int (iI v)), (2, .int (iI y))] → W p9 l e9 ({ frames := 1, cells := 0, slots := 0, locals := 21 } : Room) s9 m9 ([.ref (d 0), .int (iI v)] : List Value).toArray bl9 me9 c9 H locs 0 0 (MQ bl9 (lo_Qc X ([oX8 (d 0) (M 0) (d 1) (d 2) (M 3) (d 3) (M 5) (d 4) (d 5) (d 6) (M 9) (d 7) (M 11) (M 12) (M 13) (M 14) (M 15) (M 16) (M 17) (M 18) (M 19) (M 20) (M 21) (M 22) (M 23) (M 24) (M 25) (M 26) (M 27) (M 28), arB X (d 7) 300 B]) s9.heap.size (fun v9 w9 => v9 = none ∧ w9 = [oX8 (d 0) (M 0) (d 1) (d 2) (M 3) (d 3) (M 5) (d 4) (d 5) (d 6) (M 9) (d 7) (M 11 + dgN v) (M 12) (M 13) (M 14) (M 15) (M 16) (M 17) (M 18) (M 19) (M 20) (M 21) (M 22) (M 23) (M 24) (M 25) (M 26) (M 27) (M 28), arB X (d 7) 300 (wrL B (M 11) (dgs v))])) ([.ref (d 0), .int (iI v)] : List Value).toArray s9 0 0 A9) (F0 m9 18 ls []) := by
          intro n
          induction n with
          | zero => intro C y n9 q hn; exact absurd hn (Nat.not_lt_zero _)
          | succ n ih18 =>
            intro C y n9 q hn18 iv18_0 iv18_1 iv18_2 H locs ls hw hl
            have hyr := UN_r iv18_0
            have hys := UN_s iv18_0
            have hdv := fun (h : 0 < y) => lo_ediv_r (a := v) (b := y) hv.1 h
            refine lv_iload_n Ex Eb dX8_sayNumber_18 rfl (lv_at hl 2 rfl) ?_
            refine lo_if_le (tgt := 43) E dX8_sayNumber_19 (by decide) (by omega) (fun c2 => ?_) (fun c2 => ?_)
            · skip
              have hn9 : n9 = 0 := by omega
              have hC9 : C = wrL B (M 11) (dgs v) := by rw [← iv18_1, hn9]; rfl
              exact lo_vret E hRt hLk hK hAe hw dX8_sayNumber_43 rfl ⟨rfl, by rw [hC9, show q = M 11 + dgN v by omega]; try rfl⟩
            · skip
              have hdy := hdv (by omega)
              refine lv_aload_n Ex Eb dX8_sayNumber_22 rfl (lv_at hl 0 rfl) ?_
              refine lv_bipush (v := iI 48) Ex Eb dX8_sayNumber_23 rfl ?_
              refine lv_iload_n Ex Eb dX8_sayNumber_25 rfl (lv_at hl 1 rfl) ?_
              refine lv_iload_n Ex Eb dX8_sayNumber_26 rfl (lv_at hl 2 rfl) ?_
              refine lo_idiv E dX8_sayNumber_27 (by omega) (by omega) ?_
              refine lv_bipush (v := iI 10) Ex Eb dX8_sayNumber_28 rfl ?_
              refine lo_irem E dX8_sayNumber_30 (by omega) (by omega) ?_
              refine lo_iadd E dX8_sayNumber_31 ?_
              refine lo_callV (q0 := 0) (rest := []) E hK hw (kX8_say l X d (uI M 11 q) C (48 + ((v / y) % 10)) (show 0 ≤ q ∧ q < 300 by omega) (by omega)) (cwV 1 E.2.2.2.2 gX8_sayNumber_X8_say rfl rfl rfl (by decide +kernel) ⟨Nat.le_of_ble_eq_true rfl, Nat.le_of_ble_eq_true rfl⟩) rfl rfl [0, 1] rfl (by decide) hl.1 rfl rfl (Nat.le_of_ble_eq_true rfl) dX8_sayNumber_32 ⟨Nat.le_of_ble_eq_true rfl, Nat.le_of_ble_eq_true rfl⟩ (fun v w1 H locs hq hw => ?_)
              obtain ⟨rfl, rfl⟩ := hq
              have hw : lo_Wd X ([oX8 (d 0) (M 0) (d 1) (d 2) (M 3) (d 3) (M 5) (d 4) (d 5) (d 6) (M 9) (d 7) (q + 1) (M 12) (M 13) (M 14) (M 15) (M 16) (M 17) (M 18) (M 19) (M 20) (M 21) (M 22) (M 23) (M 24) (M 25) (M 26) (M 27) (M 28), arB X (d 7) 300 (uI C q.toNat (48 + ((v / y) % 10)))]) A9 s9.heap H locs := hw
              refine W.eq (g2 := F0 m9 35 ls []) rfl ?_
              refine lv_iload_n Ex Eb dX8_sayNumber_35 rfl (lv_at hl 2 rfl) ?_
              refine lv_bipush (v := iI 10) Ex Eb dX8_sayNumber_36 rfl ?_
              refine lo_idiv E dX8_sayNumber_38 (by omega) (by omega) ?_
              refine lv_istore_n (lv' := [(2, .int (iI (y / 10))), (0, .ref (d 0)), (1, .int (iI v))]) Ex Eb dX8_sayNumber_39 rfl hl (by decide) rfl (fun ls hl => ?_)
              refine lv_goto (tgt := 18) Ex Eb dX8_sayNumber_40 (by decide) ?_
              exact ih18 (uI C q.toNat (48 + ((v / y) % 10))) (y / 10) (n9 - 1) (q + 1) (by omega) ((hys (by omega)).1) (by rw [← iv18_1, dgU_s (show 1 ≤ n9 by omega)]; rfl) (by omega) _ _ _ hw (lv_sub hl [1, 2, 0] rfl)
        have hvu : v / 10 < u := by omega
        exact lp18 _ B u n8 (M 11) (Nat.lt_succ_self _) (iv2_0) (by rw [dgs_u hv.1 hv.2 iv2_0 (by omega) iv2_2 hvu]) (by have h1 := dgs_n hv.1 hv.2 iv2_0 (by omega) iv2_2 hvu; have h2 := dgN_r v; omega) _ _ _ hw (lv_sub hl [0, 1, 2] rfl)
      · skip
        refine lv_iload_n Ex Eb dX8_sayNumber_10 rfl (lv_at hl 2 rfl) ?_
        refine lv_bipush (v := iI 10) Ex Eb dX8_sayNumber_11 rfl ?_
        refine lo_imul E dX8_sayNumber_13 ?_
        refine lv_istore_n (lv' := [(2, .int (iI (u * 10))), (0, .ref (d 0)), (1, .int (iI v))]) Ex Eb dX8_sayNumber_14 rfl hl (by decide) rfl (fun ls hl => ?_)
        refine lv_goto (tgt := 2) Ex Eb dX8_sayNumber_15 (by decide) ?_
        exact ih2 (u * 10) (n8 + 1) (by have := UN_r (UN_up (v := v) iv2_0 (by omega) (by omega) (by omega)); omega) (UN_up (v := v) iv2_0 (by omega) (by omega) (by omega)) (by omega) (by omega) _ _ _ hw (lv_sub hl [1, 2, 0] rfl)
  exact lp2 _ 1 1 (Nat.lt_succ_self _) (UN_1) (by omega) (by omega) _ _ _ hw (lv_sub hl [1, 2, 0] rfl)
