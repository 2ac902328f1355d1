set_option maxHeartbeats 4000000 in
set_option maxRecDepth 100000 in
theorem kL_began (l : Launch) (X : KX) (kS : Nat → Nat) (D : AD9) (Z : CZ) (nc : Int) (hC : CV nc Z) (hI0 : zI Z 0 = 0) (hr : ∀ k : Nat, 0 ≤ zT Z k ∧ zT Z k ≤ 255) (hv : 0 ≤ zI Z 18 ∧ zI Z 18 ≤ 9999999) (hPR : PI (zR Z)) : CE l X kS yL_began wsL_began ({ frames := 9, cells := 1, slots := 5, locals := 312 }) [.ref (D.1 0)] ((wC X D Z)) (fun v9 w9 => ∃ Z9 : CZ, (CV 0 Z9) ∧ v9 = some (.int (iI 0)) ∧ w9 = (wC X D Z9)) 1 5 := by
  refine lo_enterE (cc := cL_began) (maxL := 4) (ret := (some .int)) (lv := [(0, .ref (D.1 0))]) (by decide) rfl rfl (Nat.le_of_ble_eq_true rfl) ?_
  intro p9 e9 s9 m9 bl9 me9 c9 A9 ls hAe E hRt hLk hK hl hw hV
  have Ex := E.1
  have Eb := E.2.1
  have harI : (Cond.arrayClass .int).before _ s9 = true := E.2.2.2.2 _ (List.mem_of_getElem? (i := 1) rfl)
  refine lo_ldcS E hV 19 (by decide) rfl dL_began_0 ?_
  refine lv_astore_n (lv' := [(1, .ref (kS 19)), (0, .ref (D.1 0))]) Ex Eb dL_began_2 rfl hl (by decide) rfl (fun ls hl => ?_)
  refine lv_iconst (v := iI 5) Ex Eb dL_began_3 rfl ?_
  refine lo_newI E hK hw harI (N := 5) (by omega) rfl (Nat.le_of_ble_eq_true rfl) (Nat.le_of_ble_eq_true rfl) (Nat.le_of_ble_eq_true rfl) dL_began_4 (fun ad1 H hw => ?_)
  have hw : lo_Wd X ((wC X D Z) ++ ([arI X ad1 5 (fun _ => 0)])) A9 s9.heap _ _ := hw
  refine lv_astore_n (lv' := [(2, .ref ad1), (1, .ref (kS 19)), (0, .ref (D.1 0))]) Ex Eb dL_began_6 rfl hl (by decide) rfl (fun ls hl => ?_)
  refine lv_iconst (v := iI 0) Ex Eb dL_began_7 rfl ?_
  refine lv_istore_n (lv' := [(3, .int (iI 0)), (2, .ref ad1), (1, .ref (kS 19)), (0, .ref (D.1 0))]) Ex Eb dL_began_8 rfl hl (by decide) rfl (fun ls hl => ?_)
  have lp9 : ∀ (n : Nat) (ix : Int), (20 - ix).toNat < n → (0 ≤ ix ∧ ix ≤ 20) → ∀ (H : Heap) (locs : List Loc) (ls : Array Slot), lo_Wd X ((wC X D Z) ++ ([arI X ad1 5 (wB ix.toNat)])) A9 s9.heap H locs → lv_has ls 4 [(0, .ref (D.1 0)), (1, .ref (kS 19)), (2, .ref ad1), (3, .int (iI ix))] → W p9 l e9 ({ frames := 9, cells := 1, slots := 5, locals := 312 } : Room) s9 m9 ([.ref (D.1 0)] : List Value).toArray bl9 me9 c9 H locs 1 5 (MQ bl9 (lo_Qc X ((wC X D Z)) s9.heap.size (fun v9 w9 => ∃ Z9 : CZ, (CV 0 Z9) ∧ v9 = some (.int (iI 0)) ∧ w9 = (wC X D Z9))) ([.ref (D.1 0)] : List Value).toArray s9 1 5 A9) (F0 m9 9 ls []) := by
    intro n
    induction n with
    | zero => intro ix hn; exact absurd hn (Nat.not_lt_zero _)
    | succ n ih9 =>
      intro ix hn9 iv9_0 H locs ls hw hl
      refine lv_iload_n Ex Eb dL_began_9 rfl (lv_at hl 3 rfl) ?_
      refine lv_bipush (v := iI 20) Ex Eb dL_began_10 rfl ?_
      refine lo_icmp_ge (tgt := 44) E dL_began_12 (by decide) (by omega) (by omega) (fun c2 => ?_) (fun c2 => ?_)
      · skip
        have e20 : ix.toNat = 20 := by omega
        rw [e20] at hw
        have hw : lo_Wd X ((wC X D Z) ++ ([arI X ad1 5 (wB 20)])) A9 s9.heap _ _ := hw
        refine lv_aload_n Ex Eb dL_began_44 rfl (lv_at hl 0 rfl) ?_
        refine lv_aload_n Ex Eb dL_began_45 rfl (lv_at hl 2 rfl) ?_
        refine lv_iconst (v := iI 0) Ex Eb dL_began_46 rfl ?_
        refine lo_iald E hK hw 145 rfl (by omega) dL_began_47 ?_
        refine W.eq (g2 := F0 m9 48 ls [.int (iI (wB 20 0)), .ref (D.1 0)]) rfl ?_
        refine lv_aload_n Ex Eb dL_began_48 rfl (lv_at hl 2 rfl) ?_
        refine lv_iconst (v := iI 1) Ex Eb dL_began_49 rfl ?_
        refine lo_iald E hK hw 145 rfl (by omega) dL_began_50 ?_
        refine W.eq (g2 := F0 m9 51 ls [.int (iI (wB 20 1)), .int (iI (wB 20 0)), .ref (D.1 0)]) rfl ?_
        refine lv_aload_n Ex Eb dL_began_51 rfl (lv_at hl 2 rfl) ?_
        refine lv_iconst (v := iI 2) Ex Eb dL_began_52 rfl ?_
        refine lo_iald E hK hw 145 rfl (by omega) dL_began_53 ?_
        refine W.eq (g2 := F0 m9 54 ls [.int (iI (wB 20 2)), .int (iI (wB 20 1)), .int (iI (wB 20 0)), .ref (D.1 0)]) rfl ?_
        refine lv_aload_n Ex Eb dL_began_54 rfl (lv_at hl 2 rfl) ?_
        refine lv_iconst (v := iI 3) Ex Eb dL_began_55 rfl ?_
        refine lo_iald E hK hw 145 rfl (by omega) dL_began_56 ?_
        refine W.eq (g2 := F0 m9 57 ls [.int (iI (wB 20 3)), .int (iI (wB 20 2)), .int (iI (wB 20 1)), .int (iI (wB 20 0)), .ref (D.1 0)]) rfl ?_
        refine lv_aload_n Ex Eb dL_began_57 rfl (lv_at hl 2 rfl) ?_
        refine lv_iconst (v := iI 4) Ex Eb dL_began_58 rfl ?_
        refine lo_iald E hK hw 145 rfl (by omega) dL_began_59 ?_
        refine W.eq (g2 := F0 m9 60 ls [.int (iI (wB 20 4)), .int (iI (wB 20 3)), .int (iI (wB 20 2)), .int (iI (wB 20 1)), .int (iI (wB 20 0)), .ref (D.1 0)]) rfl ?_
        obtain ⟨v0, v1, v2, v3, v4⟩ := wB_20
        rw [v0, v1, v2, v3, v4]
        refine W.eq (g2 := F0 m9 60 ls [.int (iI 538976288), .int (iI 538976288), .int (iI 538976288), .int (iI 1933254688), .int (iI 1819238766), .ref (D.1 0)]) rfl ?_
        have hw := lo_Wd_hd hw
        refine lw_c7 (rest := []) E hK hV hw (qX7_append l X kS D Z hI0) (cwV 5 E.2.2.2.2 gL_began_X7_append rfl rfl rfl (by decide +kernel) ⟨Nat.le_of_ble_eq_true rfl, Nat.le_of_ble_eq_true rfl⟩) hl.1 rfl rfl (Nat.le_of_ble_eq_true rfl) dL_began_60 ⟨Nat.le_of_ble_eq_true rfl, Nat.le_of_ble_eq_true rfl⟩ (fun ta H locs _ hw => ?_)
        have hw : lo_Wd X ((wC X D (uI (zI Z) 0 20, bgT (zT Z), zB Z, zP Z, zS Z, zR Z, zQ Z, zL Z, zA Z, zG Z))) A9 s9.heap _ _ := hw
        refine W.eq (g2 := F0 m9 63 ls [.int (iI ta)]) rfl ?_
        refine lv_pop Ex Eb dL_began_63 rfl ?_
        refine lv_aload_n Ex Eb dL_began_64 rfl (lv_at hl 0 rfl) ?_
        refine lw_c7 (rest := []) E hK hV hw (qX7_runScript l X kS D _ (zT Z) nc (CV_ap hC) rfl rfl hr hv hPR) (cwV 0 E.2.2.2.2 gL_began_X7_runScript rfl rfl rfl (by decide +kernel) ⟨Nat.le_of_ble_eq_true rfl, Nat.le_of_ble_eq_true rfl⟩) hl.1 rfl rfl (Nat.le_of_ble_eq_true rfl) dL_began_65 ⟨Nat.le_of_ble_eq_true rfl, Nat.le_of_ble_eq_true rfl⟩ (fun tb H locs hfin hw => ?_)
        have hw : lo_Wd X ((wC X D tb)) A9 s9.heap _ _ := hw
        refine W.eq (g2 := F0 m9 68 ls [.int (iI 0)]) rfl ?_
        exact lo_iret E hRt hLk hK hAe hw dL_began_68 wC_f ⟨tb, (hfin), rfl, rfl⟩
      · skip
        refine lv_aload_n Ex Eb dL_began_15 rfl (lv_at hl 2 rfl) ?_
        refine lv_iload_n Ex Eb dL_began_16 rfl (lv_at hl 3 rfl) ?_
        refine lv_iconst (v := iI 4) Ex Eb dL_began_17 rfl ?_
        refine lo_idiv E dL_began_18 (by omega) (by omega) ?_
        refine lv_dup2_11 Ex Eb dL_began_19 rfl rfl ?_
        refine lo_iald E hK hw 145 rfl (by omega) dL_began_20 ?_
        refine lv_aload_n Ex Eb dL_began_21 rfl (lv_at hl 1 rfl) ?_
        refine lv_iload_n Ex Eb dL_began_22 rfl (lv_at hl 3 rfl) ?_
        refine lo_callVK (rest := [.int (iI (wB ix.toNat (ix / 4).toNat)), .int (iI (ix / 4)), .ref ad1]) E hK hw hV (kJ0_charAt_5068e l X kS 19 ix (by omega) (by show 0 ≤ ix ∧ ix < 20; omega)) (cwV 1 E.2.2.2.2 gL_began_J0_charAt_5068e rfl rfl rfl (by decide +kernel) ⟨Nat.le_of_ble_eq_true rfl, Nat.le_of_ble_eq_true rfl⟩) (hV.2.2.2.2.2.1 19 (by omega)).1 [] rfl (by decide) hl.1 rfl rfl (Nat.le_of_ble_eq_true rfl) dL_began_23 ⟨Nat.le_of_ble_eq_true rfl, Nat.le_of_ble_eq_true rfl⟩ (fun v w1 H locs hq hw => ?_)
        obtain ⟨rfl, rfl⟩ := hq
        have hw : lo_Wd X ((wC X D Z) ++ ([arI X ad1 5 (wB ix.toNat)])) A9 s9.heap _ _ := hw
        refine W.eq (g2 := F0 m9 26 ls [.int (iI ((lo_tx 19).getD ix.toNat 0)), .int (iI (wB ix.toNat (ix / 4).toNat)), .int (iI (ix / 4)), .ref ad1]) rfl ?_
        refine lv_bipush (v := iI 24) Ex Eb dL_began_26 rfl ?_
        refine lv_bipush (v := iI 8) Ex Eb dL_began_28 rfl ?_
        refine lv_iload_n Ex Eb dL_began_30 rfl (lv_at hl 3 rfl) ?_
        refine lv_iconst (v := iI 4) Ex Eb dL_began_31 rfl ?_
        refine lo_irem E dL_began_32 (by omega) (by omega) ?_
        refine lo_imul E dL_began_33 ?_
        refine lo_isub E dL_began_34 ?_
        refine lv_ishl Ex Eb dL_began_35 ?_
        refine lv_ior Ex Eb dL_began_36 ?_
        refine W.eq (g2 := F0 m9 37 ls [.int (iI (orS (wB ix.toNat (ix / 4).toNat) ((lo_tx 19).getD ix.toNat 0) (24 - (8 * (ix % 4))))), .int (iI (ix / 4)), .ref ad1]) (by first | rw [orS_e] | rw [← orS_e]) ?_
        refine lo_iast E hK hw 145 rfl (by omega) (ws' := (wC X D Z) ++ ([arI X ad1 5 (uI (wB ix.toNat) (ix / 4).toNat (orS (wB ix.toNat (ix / 4).toNat) ((lo_tx 19).getD ix.toNat 0) (24 - (8 * (ix % 4)))))])) rfl dL_began_37 (fun H locs hw => ?_)
        refine lo_iinc (lv' := [(3, .int (iI (ix + 1))), (0, .ref (D.1 0)), (1, .ref (kS 19)), (2, .ref ad1)]) E dL_began_38 hl (k := 3) rfl (by decide) rfl (fun ls hl => ?_)
        refine lv_goto (tgt := 9) Ex Eb dL_began_41 (by decide) ?_
        have hw := lo_cast (congrArg (fun G9 => wC X D Z ++ [arI X ad1 5 G9]) (wB_s (by omega))) hw
        exact ih9 (ix + 1) (by omega) (by omega) _ _ _ hw (lv_sub hl [1, 2, 3, 0] rfl)
  exact lp9 _ 0 (Nat.lt_succ_self _) (by omega) _ _ _ hw (lv_sub hl [3, 2, 1, 0] rfl)
