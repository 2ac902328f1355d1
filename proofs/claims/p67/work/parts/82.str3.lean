set_option maxHeartbeats 4000000 in
set_option maxRecDepth 100000 in
theorem kX6_isWord (l : Launch) (X : KX) (kS : Nat → Nat) (xt tt : Nat) (tn tp ts tk tv : Int) (T : Nat → Int) (iw : Nat) (ht : 0 ≤ tn ∧ tn ≤ 500) (hT : ∀ k : Nat, 0 ≤ T k ∧ T k ≤ 255) (hs : 0 ≤ ts ∧ ts ≤ tp ∧ tp ≤ tn) (hk : 0 ≤ tk ∧ tk ≤ 4) (hiw : iw < 21) : CE l X kS yX6_isWord wsX6_isWord ({ frames := 4, cells := 0, slots := 0, locals := 206 }) [.ref xt, .ref (kS iw)] ([oX6 xt tt tn tp ts tk tv, arB X tt 500 (sB T)]) (fun v9 w9 => ∃ z : Int, ((z = 1 ∧ tk = 1 ∧ isW T ts tp (lo_tx iw)) ∨ (z = 0 ∧ ¬ (tk = 1 ∧ isW T ts tp (lo_tx iw)))) ∧ v9 = some (.int (iI z)) ∧ w9 = [oX6 xt tt tn tp ts tk tv, arB X tt 500 (sB T)]) 0 0 := by
  refine lo_enterE (cc := cX6_isWord) (maxL := 3) (ret := (some .boolean)) (lv := [(0, .ref xt), (1, .ref (kS iw))]) (by decide) rfl rfl (Nat.le_of_ble_eq_true rfl) ?_
  intro p9 e9 s9 m9 bl9 me9 c9 A9 ls hAe E hRt hLk hK hl hw hV
  have Ex := E.1
  have Eb := E.2.1
  have huRX6 : ∀ w ∈ u_ws RX6 TX6 6, w ∈ wsX6_isWord := by decide +kernel
  have hf21 : (Cond.fieldLink RX6 21 "LoanSchedule$Tokens" "kind" "I").before _ s9 = true := E.2.2.2.2 _ (List.mem_of_getElem? (i := 1) rfl)
  have hf15 : (Cond.fieldLink RX6 15 "LoanSchedule$Tokens" "position" "I").before _ s9 = true := E.2.2.2.2 _ (List.mem_of_getElem? (i := 2) rfl)
  have hf18 : (Cond.fieldLink RX6 18 "LoanSchedule$Tokens" "start" "I").before _ s9 = true := E.2.2.2.2 _ (List.mem_of_getElem? (i := 3) rfl)
  have hle := lo_tx_l iw hiw
  refine lv_aload_n Ex Eb dX6_isWord_0 rfl (lv_at hl 0 rfl) ?_
  refine lo_get E hK hw huRX6 4 hf21 rfl 0 rfl rfl (by decide) (v := .int (iI tk)) rfl dX6_isWord_1 ?_
  refine lv_iconst (v := iI 1) Ex Eb dX6_isWord_4 rfl ?_
  refine lo_icmp_ne (tgt := 24) E dX6_isWord_5 (by decide) (by omega) (by omega) (fun c1 => ?_) (fun c1 => ?_)
  · skip
    refine lv_iconst (v := iI 0) Ex Eb dX6_isWord_24 rfl ?_
    exact lo_zret E hRt hLk hK hAe hw dX6_isWord_25 rfl rfl ⟨0, (by first | exact Or.inl ⟨rfl, by omega, isW_y (x := x) (by omega) (by omega) iv28_1⟩ | exact Or.inr ⟨rfl, fun h => isW_n (x := x) hs.1 (by omega) (by omega) h.2⟩ | exact Or.inr ⟨rfl, fun h => absurd h.1 (by omega)⟩ | exact Or.inr ⟨rfl, fun h => isW_l (by omega) h.2⟩), rfl, rfl⟩
  · skip
    refine lv_aload_n Ex Eb dX6_isWord_8 rfl (lv_at hl 0 rfl) ?_
    refine lo_get E hK hw huRX6 2 hf15 rfl 0 rfl rfl (by decide) (v := .int (iI tp)) rfl dX6_isWord_9 ?_
    refine lv_aload_n Ex Eb dX6_isWord_12 rfl (lv_at hl 0 rfl) ?_
    refine lo_get E hK hw huRX6 3 hf18 rfl 0 rfl rfl (by decide) (v := .int (iI ts)) rfl dX6_isWord_13 ?_
    refine lo_isub E dX6_isWord_16 ?_
    refine lv_aload_n Ex Eb dX6_isWord_17 rfl (lv_at hl 1 rfl) ?_
    refine lo_callVK (rest := [.int (iI (tp - ts))]) E hK hw hV (kJ0_length_8abf5 l X kS iw (hiw)) (cwV 0 E.2.2.2.2 gX6_isWord_J0_length_8abf5 rfl rfl rfl (by decide +kernel) ⟨Nat.le_of_ble_eq_true rfl, Nat.le_of_ble_eq_true rfl⟩) (hV.2.2.2.2.2.1 iw (by omega)).1 [] rfl (by decide) hl.1 rfl rfl (Nat.le_of_ble_eq_true rfl) dX6_isWord_18 ⟨Nat.le_of_ble_eq_true rfl, Nat.le_of_ble_eq_true rfl⟩ (fun v w1 H locs hq hw => ?_)
    obtain ⟨rfl, rfl⟩ := hq
    have hw : lo_Wd X ([oX6 xt tt tn tp ts tk tv, arB X tt 500 (sB T)]) A9 s9.heap H locs := hw
    refine W.eq (g2 := F0 m9 21 ls [.int (iI ((lo_tx iw).length : Int)), .int (iI (tp - ts))]) rfl ?_
    refine lo_icmp_eq (tgt := 26) E dX6_isWord_21 (by decide) (by omega) (by omega) (fun c2 => ?_) (fun c2 => ?_)
    · skip
      refine lv_iconst (v := iI 0) Ex Eb dX6_isWord_26 rfl ?_
      refine lv_istore_n (lv' := [(2, .int (iI 0)), (0, .ref xt), (1, .ref (kS iw))]) Ex Eb dX6_isWord_27 rfl hl (by decide) rfl (fun ls hl => ?_)
      have lp28 : ∀ (n : Nat) (x : Int), (((lo_tx iw).length : Int) - x).toNat < n → (0 ≤ x ∧ x ≤ ((lo_tx iw).length : Int)) → (wdM T ts (lo_tx iw) x) → ∀ (H : Heap) (locs : List Loc) (ls : Array Slot), lo_Wd X ([oX6 xt tt tn tp ts tk tv, arB X tt 500 (sB T)]) A9 s9.heap H locs → lv_has ls 3 [(0, .ref xt), (1, .ref (kS iw)), (2, .int (iI x))] → W p9 l e9 ({ frames := 4, cells := 0, slots := 0, locals := 206 } : Room) s9 m9 ([.ref xt, .ref (kS iw)] : List Value).toArray bl9 me9 c9 H locs 0 0 (MQ bl9 (lo_Qc X ([oX6 xt tt tn tp ts tk tv, arB X tt 500 (sB T)]) s9.heap.size (fun v9 w9 => ∃ z : Int, ((z = 1 ∧ tk = 1 ∧ isW T ts tp (lo_tx iw)) ∨ (z = 0 ∧ ¬ (tk = 1 ∧ isW T ts tp (lo_tx iw)))) ∧ v9 = some (.int (iI z)) ∧ w9 = [oX6 xt tt tn tp ts tk tv, arB X tt 500 (sB T)])) ([.ref xt, .ref (kS iw)] : List Value).toArray s9 0 0 A9) (F0 m9 28 ls []) := by
        intro n
        induction n with
        | zero => intro x hn; exact absurd hn (Nat.not_lt_zero _)
        | succ n ih28 =>
          intro x hn28 iv28_0 iv28_1 H locs ls hw hl
          have hTx := sB_r hT (ts + x).toNat
          have hgx := lo_tx_g hiw x.toNat
          refine lv_iload_n Ex Eb dX6_isWord_28 rfl (lv_at hl 2 rfl) ?_
          refine lv_aload_n Ex Eb dX6_isWord_29 rfl (lv_at hl 1 rfl) ?_
          refine lo_callVK (rest := [.int (iI x)]) E hK hw hV (kJ0_length_8abf5 l X kS iw (hiw)) (cwV 0 E.2.2.2.2 gX6_isWord_J0_length_8abf5 rfl rfl rfl (by decide +kernel) ⟨Nat.le_of_ble_eq_true rfl, Nat.le_of_ble_eq_true rfl⟩) (hV.2.2.2.2.2.1 iw (by omega)).1 [] rfl (by decide) hl.1 rfl rfl (Nat.le_of_ble_eq_true rfl) dX6_isWord_30 ⟨Nat.le_of_ble_eq_true rfl, Nat.le_of_ble_eq_true rfl⟩ (fun v w1 H locs hq hw => ?_)
          obtain ⟨rfl, rfl⟩ := hq
          have hw : lo_Wd X ([oX6 xt tt tn tp ts tk tv, arB X tt 500 (sB T)]) A9 s9.heap H locs := hw
          refine W.eq (g2 := F0 m9 33 ls [.int (iI ((lo_tx iw).length : Int)), .int (iI x)]) rfl ?_
          refine lo_icmp_ge (tgt := 62) E dX6_isWord_33 (by decide) (by omega) (by omega) (fun c3 => ?_) (fun c3 => ?_)
          · skip
            refine lv_iconst (v := iI 1) Ex Eb dX6_isWord_62 rfl ?_
            exact lo_zret E hRt hLk hK hAe hw dX6_isWord_63 rfl rfl ⟨1, (by first | exact Or.inl ⟨rfl, by omega, isW_y (x := x) (by omega) (by omega) iv28_1⟩ | exact Or.inr ⟨rfl, fun h => isW_n (x := x) hs.1 (by omega) (by omega) h.2⟩ | exact Or.inr ⟨rfl, fun h => absurd h.1 (by omega)⟩ | exact Or.inr ⟨rfl, fun h => isW_l (by omega) h.2⟩), rfl, rfl⟩
          · skip
            refine lv_aload_n Ex Eb dX6_isWord_36 rfl (lv_at hl 0 rfl) ?_
            refine lv_aload_n Ex Eb dX6_isWord_37 rfl (lv_at hl 0 rfl) ?_
            refine lo_get E hK hw huRX6 3 hf18 rfl 0 rfl rfl (by decide) (v := .int (iI ts)) rfl dX6_isWord_38 ?_
            refine lv_iload_n Ex Eb dX6_isWord_41 rfl (lv_at hl 2 rfl) ?_
            refine lo_iadd E dX6_isWord_42 ?_
            refine lo_callV (q0 := 0) (rest := []) E hK hw (kX6_byteAt l X xt tt tn tp ts tk tv T (ts + x) (ht) (hT) (by omega)) (cwV 1 E.2.2.2.2 gX6_isWord_X6_byteAt rfl rfl rfl (by decide +kernel) ⟨Nat.le_of_ble_eq_true rfl, Nat.le_of_ble_eq_true rfl⟩) rfl rfl [0, 1] rfl (by decide) hl.1 rfl rfl (Nat.le_of_ble_eq_true rfl) dX6_isWord_43 ⟨Nat.le_of_ble_eq_true rfl, Nat.le_of_ble_eq_true rfl⟩ (fun v w1 H locs hq hw => ?_)
            obtain ⟨z4, q43_0, q43_1, rfl, rfl⟩ := hq
            have hw : lo_Wd X ([oX6 xt tt tn tp ts tk tv, arB X tt 500 (sB T)]) A9 s9.heap H locs := hw
            refine W.eq (g2 := F0 m9 46 ls [.int (iI z4)]) rfl ?_
            refine lv_aload_n Ex Eb dX6_isWord_46 rfl (lv_at hl 1 rfl) ?_
            refine lv_iload_n Ex Eb dX6_isWord_47 rfl (lv_at hl 2 rfl) ?_
            refine lo_callVK (rest := [.int (iI z4)]) E hK hw hV (kJ0_charAt_5068e l X kS iw x (hiw) (by omega)) (cwV 1 E.2.2.2.2 gX6_isWord_J0_charAt_5068e rfl rfl rfl (by decide +kernel) ⟨Nat.le_of_ble_eq_true rfl, Nat.le_of_ble_eq_true rfl⟩) (hV.2.2.2.2.2.1 iw (by omega)).1 [] rfl (by decide) hl.1 rfl rfl (Nat.le_of_ble_eq_true rfl) dX6_isWord_48 ⟨Nat.le_of_ble_eq_true rfl, Nat.le_of_ble_eq_true rfl⟩ (fun v w1 H locs hq hw => ?_)
            obtain ⟨rfl, rfl⟩ := hq
            have hw : lo_Wd X ([oX6 xt tt tn tp ts tk tv, arB X tt 500 (sB T)]) A9 s9.heap H locs := hw
            refine W.eq (g2 := F0 m9 51 ls [.int (iI ((lo_tx iw).getD x.toNat 0)), .int (iI z4)]) rfl ?_
            refine lo_icmp_eq (tgt := 56) E dX6_isWord_51 (by decide) (by omega) (by omega) (fun c5 => ?_) (fun c5 => ?_)
            · skip
              refine lo_iinc (lv' := [(2, .int (iI (x + 1))), (0, .ref xt), (1, .ref (kS iw))]) E dX6_isWord_56 hl (k := 2) rfl (by decide) rfl (fun ls hl => ?_)
              refine lv_goto (tgt := 28) Ex Eb dX6_isWord_59 (by decide) ?_
              exact ih28 (x + 1) (by omega) (by omega) (wdM_s hs.1 iv28_0.1 iv28_1 (by omega)) _ _ _ hw (lv_sub hl [1, 2, 0] rfl)
            · skip
              refine lv_iconst (v := iI 0) Ex Eb dX6_isWord_54 rfl ?_
              exact lo_zret E hRt hLk hK hAe hw dX6_isWord_55 rfl rfl ⟨0, (by first | exact Or.inl ⟨rfl, by omega, isW_y (x := x) (by omega) (by omega) iv28_1⟩ | exact Or.inr ⟨rfl, fun h => isW_n (x := x) hs.1 (by omega) (by omega) h.2⟩ | exact Or.inr ⟨rfl, fun h => absurd h.1 (by omega)⟩ | exact Or.inr ⟨rfl, fun h => isW_l (by omega) h.2⟩), rfl, rfl⟩
      exact lp28 _ 0 (Nat.lt_succ_self _) (by omega) (wdM_0) _ _ _ hw (lv_sub hl [1, 2, 0] rfl)
    · skip
      refine lv_iconst (v := iI 0) Ex Eb dX6_isWord_24 rfl ?_
      exact lo_zret E hRt hLk hK hAe hw dX6_isWord_25 rfl rfl ⟨0, (by first | exact Or.inl ⟨rfl, by omega, isW_y (x := x) (by omega) (by omega) iv28_1⟩ | exact Or.inr ⟨rfl, fun h => isW_n (x := x) hs.1 (by omega) (by omega) h.2⟩ | exact Or.inr ⟨rfl, fun h => absurd h.1 (by omega)⟩ | exact Or.inr ⟨rfl, fun h => isW_l (by omega) h.2⟩), rfl, rfl⟩
