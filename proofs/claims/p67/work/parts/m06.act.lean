set_option maxHeartbeats 4000000 in
set_option maxRecDepth 100000 in
theorem kL_act (l : Launch) (X : KX) (kS : Nat → Nat) (hst : l.stackTraces = false) (D : AD9) (Z : CZ) (n : Int) (k : Int) (hC : CV n Z) (hk9 : 0 ≤ k ∧ k ≤ 100) : CE l X kS yL_act wsL_act ({ frames := 9, cells := 6, slots := 36, locals := 175 }) [.ref (D.1 0), .ref (kS 21), .int (iI k)] ((wC X D Z)) (fun v9 w9 => ∃ Z9 : CZ, (CV (n + 3) Z9) ∧ v9 = none ∧ w9 = (wC X D Z9)) 6 36 := by
  refine lo_enterE (cc := cL_act) (maxL := 8) (ret := none) (lv := [(0, .ref (D.1 0)), (1, .ref (kS 21)), (2, .int (iI k))]) (by decide) rfl rfl (Nat.le_of_ble_eq_true rfl) ?_
  intro p9 e9 s9 m9 bl9 me9 c9 A9 ls hAe E hRt hLk hK hl hw hV
  have Ex := E.1
  have Eb := E.2.1
  have hc155 : (Cond.constant RL 155 (2147483647)).before _ s9 = true := E.2.2.2.2 _ (List.mem_of_getElem? (i := 1) rfl)
  have hl159 : (Cond.methodLink RL 159 Lib.Math.max.name).before _ s9 = true := E.2.2.2.2 _ (List.mem_of_getElem? (i := 2) rfl)
  have hstmax : (Cond.static Lib.Math.max.name).before _ s9 = true := E.2.2.2.2 _ (List.mem_of_getElem? (i := 3) rfl)
  have hmath : (Cond.initialized "java/lang/Math").before _ s9 = true := E.2.2.2.2 _ (List.mem_of_getElem? (i := 4) rfl)
  have hcdmax : (Cond.code Lib.Math.max.name Lib.Math.max.code 2 (some .int)).before _ s9 = true := E.2.2.2.2 _ (List.mem_of_getElem? (i := 5) rfl)
  have hc162 : (Cond.constant RL 162 (134217727)).before _ s9 = true := E.2.2.2.2 _ (List.mem_of_getElem? (i := 6) rfl)
  have hPI := hC.1
  obtain ⟨hn0, hn1⟩ := hPI.1
  refine lv_aload_n Ex Eb dL_act_0 rfl (lv_at hl 1 rfl) ?_
  refine lv_iload_n Ex Eb dL_act_1 rfl (lv_at hl 2 rfl) ?_
  refine lv_iconst (v := iI 1) Ex Eb dL_act_2 rfl ?_
  refine lo_iadd E dL_act_3 ?_
  refine lo_callSE (rest := []) E hK hw hV (kL_cell l X kS (k + 1) (by omega)) (cwS 2 E.2.2.2.2 gL_act_L_cell rfl rfl rfl (by decide +kernel) ⟨Nat.le_of_ble_eq_true rfl, Nat.le_of_ble_eq_true rfl⟩) [] rfl rfl hl.1 rfl rfl (Nat.le_of_ble_eq_true rfl) dL_act_4 ⟨Nat.le_of_ble_eq_true rfl, Nat.le_of_ble_eq_true rfl⟩ (fun v w1 H locs hq hw => ?_)
  obtain ⟨z1, hz1, rfl, rfl⟩ := hq
  have hw : lo_Wd X ((wC X D Z)) A9 s9.heap H locs := hw
  refine W.eq (g2 := F0 m9 7 ls [.int (iI z1)]) rfl ?_
  refine lo_ldc (z := 2147483647) E hc155 dL_act_7 rfl ?_
  refine lw_iand E dL_act_9 (fun z2 hz2 => ?_)
  refine lv_istore_n (lv' := [(3, .int (iI z2)), (0, .ref (D.1 0)), (1, .ref (kS 21)), (2, .int (iI k))]) Ex Eb dL_act_10 rfl hl (by decide) rfl (fun ls hl => ?_)
  refine lv_iconst (v := iI 1) Ex Eb dL_act_11 rfl ?_
  refine lv_aload_n Ex Eb dL_act_12 rfl (lv_at hl 1 rfl) ?_
  refine lw_c7 (rest := [.int (iI 1)]) E hK hV hw (qX7_loanCount l X kS D Z  hPI) (cwV 0 E.2.2.2.2 gL_act_X7_loanCount rfl rfl rfl (by decide +kernel) ⟨Nat.le_of_ble_eq_true rfl, Nat.le_of_ble_eq_true rfl⟩) hl.1 rfl rfl (Nat.le_of_ble_eq_true rfl) dL_act_13 ⟨Nat.le_of_ble_eq_true rfl, Nat.le_of_ble_eq_true rfl⟩ (fun t3 H locs _ hw => ?_)
  have hw : lo_Wd X ((wC X D (zUA Z t3))) A9 s9.heap H locs := hw
  refine W.eq (g2 := F0 m9 16 ls [.int (iI (Pn (zP Z))), .int (iI 1)]) rfl ?_
  refine lo_mmax E hl.1 hl159 hstmax hmath hcdmax (Nat.le_of_ble_eq_true rfl) (Nat.le_of_ble_eq_true rfl) (Nat.le_of_ble_eq_true rfl) (Nat.le_of_ble_eq_true rfl) (by omega) (by omega) dL_act_16 ?_
  refine lv_istore (lv' := [(4, .int (iI (max 1 (Pn (zP Z))))), (3, .int (iI z2)), (0, .ref (D.1 0)), (1, .ref (kS 21)), (2, .int (iI k))]) Ex Eb dL_act_19 hl (by decide) rfl (fun ls hl => ?_)
  refine lv_iload_n Ex Eb dL_act_21 rfl (lv_at hl 1 rfl) ?_
  refine lv_iload Ex Eb dL_act_22 (lv_at hl 0 rfl) ?_
  refine lw_irem E dL_act_24 (by omega) (fun z4 hz4 => ?_)
  refine lv_istore (lv' := [(5, .int (iI z4)), (4, .int (iI (max 1 (Pn (zP Z))))), (3, .int (iI z2)), (0, .ref (D.1 0)), (1, .ref (kS 21)), (2, .int (iI k))]) Ex Eb dL_act_25 hl (by decide) rfl (fun ls hl => ?_)
  refine lv_aload_n Ex Eb dL_act_27 rfl (lv_at hl 4 rfl) ?_
  refine lv_iload_n Ex Eb dL_act_28 rfl (lv_at hl 5 rfl) ?_
  refine lo_callSE (rest := []) E hK hw hV (kL_cell l X kS k (by omega)) (cwS 2 E.2.2.2.2 gL_act_L_cell rfl rfl rfl (by decide +kernel) ⟨Nat.le_of_ble_eq_true rfl, Nat.le_of_ble_eq_true rfl⟩) [] rfl rfl hl.1 rfl rfl (Nat.le_of_ble_eq_true rfl) dL_act_29 ⟨Nat.le_of_ble_eq_true rfl, Nat.le_of_ble_eq_true rfl⟩ (fun v w1 H locs hq hw => ?_)
  obtain ⟨z5, hz5, rfl, rfl⟩ := hq
  have hw : lo_Wd X ((wC X D (zUA Z t3))) A9 s9.heap H locs := hw
  refine W.eq (g2 := F0 m9 32 ls [.int (iI z5)]) rfl ?_
  refine lv_iconst (v := iI 4) Ex Eb dL_act_32 rfl ?_
  refine lw_ishr E dL_act_33 (fun z6 hz6 => ?_)
  refine lo_ldc (z := 134217727) E hc162 dL_act_34 rfl ?_
  refine lw_iand E dL_act_36 (fun z7 hz7 => ?_)
  refine lv_istore (lv' := [(6, .int (iI z7)), (5, .int (iI z4)), (4, .int (iI (max 1 (Pn (zP Z))))), (3, .int (iI z2)), (0, .ref (D.1 0)), (1, .ref (kS 21)), (2, .int (iI k))]) Ex Eb dL_act_37 hl (by decide) rfl (fun ls hl => ?_)
  refine lv_aload_n Ex Eb dL_act_39 rfl (lv_at hl 5 rfl) ?_
  refine lv_iload_n Ex Eb dL_act_40 rfl (lv_at hl 6 rfl) ?_
  refine lv_iconst (v := iI 0) Ex Eb dL_act_41 rfl ?_
  refine lv_bipush (v := iI 16) Ex Eb dL_act_42 rfl ?_
  refine lo_callSE (rest := []) E hK hw hV (kL_of l X kS k 0 16 (by omega) (by omega)) (cwS 4 E.2.2.2.2 gL_act_L_of rfl rfl rfl (by decide +kernel) ⟨Nat.le_of_ble_eq_true rfl, Nat.le_of_ble_eq_true rfl⟩) [] rfl rfl hl.1 rfl rfl (Nat.le_of_ble_eq_true rfl) dL_act_44 ⟨Nat.le_of_ble_eq_true rfl, Nat.le_of_ble_eq_true rfl⟩ (fun v w1 H locs hq hw => ?_)
  obtain ⟨z8, hz8, rfl, rfl⟩ := hq
  have hw : lo_Wd X ((wC X D (zUA Z t3))) A9 s9.heap H locs := hw
  refine W.eq (g2 := F0 m9 47 ls [.int (iI z8)]) rfl ?_
  by_cases ts47_0 : z8 = 0
  · refine lo_tswI (off := 73) (tgt := 120) E dL_act_47 (by omega) (by omega) (by rw [ts47_0]; rfl) (by decide) ?_
    refine lv_aload_n Ex Eb dL_act_120 rfl (lv_at hl 4 rfl) ?_
    refine lv_iload_n Ex Eb dL_act_121 rfl (lv_at hl 3 rfl) ?_
    refine lo_callSE (rest := [.ref (D.1 0)]) E hK hw hV (kL_amount l X kS z2) (cwS 1 E.2.2.2.2 gL_act_L_amount rfl rfl rfl (by decide +kernel) ⟨Nat.le_of_ble_eq_true rfl, Nat.le_of_ble_eq_true rfl⟩) [] rfl rfl hl.1 rfl rfl (Nat.le_of_ble_eq_true rfl) dL_act_122 ⟨Nat.le_of_ble_eq_true rfl, Nat.le_of_ble_eq_true rfl⟩ (fun v w1 H locs hq hw => ?_)
    obtain ⟨z9, hz9, rfl, rfl⟩ := hq
    have hw : lo_Wd X ((wC X D (zUA Z t3))) A9 s9.heap H locs := hw
    refine W.eq (g2 := F0 m9 125 ls [.int (iI z9), .ref (D.1 0)]) rfl ?_
    refine lv_iload Ex Eb dL_act_125 (lv_at hl 0 rfl) ?_
    refine lv_sipush (v := iI 3001) Ex Eb dL_act_127 rfl ?_
    refine lw_irem E dL_act_130 (by omega) (fun z10 hz10 => ?_)
    refine lv_iconst (v := iI 1) Ex Eb dL_act_131 rfl ?_
    refine lv_iload Ex Eb dL_act_132 (lv_at hl 0 rfl) ?_
    refine lv_sipush (v := iI 4096) Ex Eb dL_act_134 rfl ?_
    refine lw_idiv E dL_act_137 (by omega) (fun z11 hz11 => ?_)
    refine lv_iload_n Ex Eb dL_act_138 rfl (lv_at hl 3 rfl) ?_
    refine lv_iconst (v := iI 2) Ex Eb dL_act_139 rfl ?_
    refine lw_irem E dL_act_140 (by omega) (fun z12 hz12 => ?_)
    refine lo_if_ne (tgt := 149) E dL_act_141 (by decide) (by omega) (fun c13 => ?_) (fun c13 => ?_)
    · skip
      refine lv_bipush (v := iI 12) Ex Eb dL_act_149 rfl ?_
      refine lw_irem E dL_act_151 (by omega) (fun z14 hz14 => ?_)
      refine lw_iadd E dL_act_152 (fun z15 hz15 => ?_)
      refine lw_cL (rest := []) E hK hV hw (kL_openLoan l X kS hst D (zUA Z t3) n (CV.ahead t3 hC) z9 z10 z15 (by omega) (by omega) (by omega)) (vx_cwSW 4 E.2.2.2.2 gL_act_L_openLoan rfl rfl rfl (by decide +kernel) ⟨Nat.le_of_ble_eq_true rfl, Nat.le_of_ble_eq_true rfl⟩) hl.1 rfl rfl (Nat.le_of_ble_eq_true rfl) dL_act_153 ⟨Nat.le_of_ble_eq_true rfl, Nat.le_of_ble_eq_true rfl⟩ (fun t16 H locs ht16 hw => ?_)
      have hw : lo_Wd X ((wC X D t16.2)) A9 s9.heap H locs := hw
      refine W.eq (g2 := F0 m9 156 ls [.int (iI t16.1)]) rfl ?_
      refine lv_pop Ex Eb dL_act_156 rfl ?_
      refine lv_goto (tgt := 312) Ex Eb dL_act_157 (by decide) ?_
      refine W.widen (k := 6) (n := 36) (Nat.le_of_ble_eq_true rfl) (Nat.le_of_ble_eq_true rfl) ?_
      exact lo_vret E hRt hLk hK hAe hw dL_act_312 wC_f ⟨t16.2, (ht16.mono (by omega)), rfl, rfl⟩
    · skip
      refine lv_bipush (v := iI 120) Ex Eb dL_act_144 rfl ?_
      refine lv_goto (tgt := 151) Ex Eb dL_act_146 (by decide) ?_
      refine lw_irem E dL_act_151 (by omega) (fun z17 hz17 => ?_)
      refine lw_iadd E dL_act_152 (fun z18 hz18 => ?_)
      refine lw_cL (rest := []) E hK hV hw (kL_openLoan l X kS hst D (zUA Z t3) n (CV.ahead t3 hC) z9 z10 z18 (by omega) (by omega) (by omega)) (vx_cwSW 4 E.2.2.2.2 gL_act_L_openLoan rfl rfl rfl (by decide +kernel) ⟨Nat.le_of_ble_eq_true rfl, Nat.le_of_ble_eq_true rfl⟩) hl.1 rfl rfl (Nat.le_of_ble_eq_true rfl) dL_act_153 ⟨Nat.le_of_ble_eq_true rfl, Nat.le_of_ble_eq_true rfl⟩ (fun t19 H locs ht19 hw => ?_)
      have hw : lo_Wd X ((wC X D t19.2)) A9 s9.heap H locs := hw
      refine W.eq (g2 := F0 m9 156 ls [.int (iI t19.1)]) rfl ?_
      refine lv_pop Ex Eb dL_act_156 rfl ?_
      refine lv_goto (tgt := 312) Ex Eb dL_act_157 (by decide) ?_
      refine W.widen (k := 6) (n := 36) (Nat.le_of_ble_eq_true rfl) (Nat.le_of_ble_eq_true rfl) ?_
      exact lo_vret E hRt hLk hK hAe hw dL_act_312 wC_f ⟨t19.2, (ht19.mono (by omega)), rfl, rfl⟩
  by_cases ts47_1 : z8 = 1
  · refine lo_tswI (off := 73) (tgt := 120) E dL_act_47 (by omega) (by omega) (by rw [ts47_1]; rfl) (by decide) ?_
    refine lv_aload_n Ex Eb dL_act_120 rfl (lv_at hl 4 rfl) ?_
    refine lv_iload_n Ex Eb dL_act_121 rfl (lv_at hl 3 rfl) ?_
    refine lo_callSE (rest := [.ref (D.1 0)]) E hK hw hV (kL_amount l X kS z2) (cwS 1 E.2.2.2.2 gL_act_L_amount rfl rfl rfl (by decide +kernel) ⟨Nat.le_of_ble_eq_true rfl, Nat.le_of_ble_eq_true rfl⟩) [] rfl rfl hl.1 rfl rfl (Nat.le_of_ble_eq_true rfl) dL_act_122 ⟨Nat.le_of_ble_eq_true rfl, Nat.le_of_ble_eq_true rfl⟩ (fun v w1 H locs hq hw => ?_)
    obtain ⟨z20, hz20, rfl, rfl⟩ := hq
    have hw : lo_Wd X ((wC X D (zUA Z t3))) A9 s9.heap H locs := hw
    refine W.eq (g2 := F0 m9 125 ls [.int (iI z20), .ref (D.1 0)]) rfl ?_
    refine lv_iload Ex Eb dL_act_125 (lv_at hl 0 rfl) ?_
    refine lv_sipush (v := iI 3001) Ex Eb dL_act_127 rfl ?_
    refine lw_irem E dL_act_130 (by omega) (fun z21 hz21 => ?_)
    refine lv_iconst (v := iI 1) Ex Eb dL_act_131 rfl ?_
    refine lv_iload Ex Eb dL_act_132 (lv_at hl 0 rfl) ?_
    refine lv_sipush (v := iI 4096) Ex Eb dL_act_134 rfl ?_
    refine lw_idiv E dL_act_137 (by omega) (fun z22 hz22 => ?_)
    refine lv_iload_n Ex Eb dL_act_138 rfl (lv_at hl 3 rfl) ?_
    refine lv_iconst (v := iI 2) Ex Eb dL_act_139 rfl ?_
    refine lw_irem E dL_act_140 (by omega) (fun z23 hz23 => ?_)
    refine lo_if_ne (tgt := 149) E dL_act_141 (by decide) (by omega) (fun c24 => ?_) (fun c24 => ?_)
    · skip
      refine lv_bipush (v := iI 12) Ex Eb dL_act_149 rfl ?_
      refine lw_irem E dL_act_151 (by omega) (fun z25 hz25 => ?_)
      refine lw_iadd E dL_act_152 (fun z26 hz26 => ?_)
      refine lw_cL (rest := []) E hK hV hw (kL_openLoan l X kS hst D (zUA Z t3) n (CV.ahead t3 hC) z20 z21 z26 (by omega) (by omega) (by omega)) (vx_cwSW 4 E.2.2.2.2 gL_act_L_openLoan rfl rfl rfl (by decide +kernel) ⟨Nat.le_of_ble_eq_true rfl, Nat.le_of_ble_eq_true rfl⟩) hl.1 rfl rfl (Nat.le_of_ble_eq_true rfl) dL_act_153 ⟨Nat.le_of_ble_eq_true rfl, Nat.le_of_ble_eq_true rfl⟩ (fun t27 H locs ht27 hw => ?_)
      have hw : lo_Wd X ((wC X D t27.2)) A9 s9.heap H locs := hw
      refine W.eq (g2 := F0 m9 156 ls [.int (iI t27.1)]) rfl ?_
      refine lv_pop Ex Eb dL_act_156 rfl ?_
      refine lv_goto (tgt := 312) Ex Eb dL_act_157 (by decide) ?_
      refine W.widen (k := 6) (n := 36) (Nat.le_of_ble_eq_true rfl) (Nat.le_of_ble_eq_true rfl) ?_
      exact lo_vret E hRt hLk hK hAe hw dL_act_312 wC_f ⟨t27.2, (ht27.mono (by omega)), rfl, rfl⟩
    · skip
      refine lv_bipush (v := iI 120) Ex Eb dL_act_144 rfl ?_
      refine lv_goto (tgt := 151) Ex Eb dL_act_146 (by decide) ?_
      refine lw_irem E dL_act_151 (by omega) (fun z28 hz28 => ?_)
      refine lw_iadd E dL_act_152 (fun z29 hz29 => ?_)
      refine lw_cL (rest := []) E hK hV hw (kL_openLoan l X kS hst D (zUA Z t3) n (CV.ahead t3 hC) z20 z21 z29 (by omega) (by omega) (by omega)) (vx_cwSW 4 E.2.2.2.2 gL_act_L_openLoan rfl rfl rfl (by decide +kernel) ⟨Nat.le_of_ble_eq_true rfl, Nat.le_of_ble_eq_true rfl⟩) hl.1 rfl rfl (Nat.le_of_ble_eq_true rfl) dL_act_153 ⟨Nat.le_of_ble_eq_true rfl, Nat.le_of_ble_eq_true rfl⟩ (fun t30 H locs ht30 hw => ?_)
      have hw : lo_Wd X ((wC X D t30.2)) A9 s9.heap H locs := hw
      refine W.eq (g2 := F0 m9 156 ls [.int (iI t30.1)]) rfl ?_
      refine lv_pop Ex Eb dL_act_156 rfl ?_
      refine lv_goto (tgt := 312) Ex Eb dL_act_157 (by decide) ?_
      refine W.widen (k := 6) (n := 36) (Nat.le_of_ble_eq_true rfl) (Nat.le_of_ble_eq_true rfl) ?_
      exact lo_vret E hRt hLk hK hAe hw dL_act_312 wC_f ⟨t30.2, (ht30.mono (by omega)), rfl, rfl⟩
  by_cases ts47_2 : z8 = 2
  · refine lo_tswI (off := 73) (tgt := 120) E dL_act_47 (by omega) (by omega) (by rw [ts47_2]; rfl) (by decide) ?_
    refine lv_aload_n Ex Eb dL_act_120 rfl (lv_at hl 4 rfl) ?_
    refine lv_iload_n Ex Eb dL_act_121 rfl (lv_at hl 3 rfl) ?_
    refine lo_callSE (rest := [.ref (D.1 0)]) E hK hw hV (kL_amount l X kS z2) (cwS 1 E.2.2.2.2 gL_act_L_amount rfl rfl rfl (by decide +kernel) ⟨Nat.le_of_ble_eq_true rfl, Nat.le_of_ble_eq_true rfl⟩) [] rfl rfl hl.1 rfl rfl (Nat.le_of_ble_eq_true rfl) dL_act_122 ⟨Nat.le_of_ble_eq_true rfl, Nat.le_of_ble_eq_true rfl⟩ (fun v w1 H locs hq hw => ?_)
    obtain ⟨z31, hz31, rfl, rfl⟩ := hq
    have hw : lo_Wd X ((wC X D (zUA Z t3))) A9 s9.heap H locs := hw
    refine W.eq (g2 := F0 m9 125 ls [.int (iI z31), .ref (D.1 0)]) rfl ?_
    refine lv_iload Ex Eb dL_act_125 (lv_at hl 0 rfl) ?_
    refine lv_sipush (v := iI 3001) Ex Eb dL_act_127 rfl ?_
    refine lw_irem E dL_act_130 (by omega) (fun z32 hz32 => ?_)
    refine lv_iconst (v := iI 1) Ex Eb dL_act_131 rfl ?_
    refine lv_iload Ex Eb dL_act_132 (lv_at hl 0 rfl) ?_
    refine lv_sipush (v := iI 4096) Ex Eb dL_act_134 rfl ?_
    refine lw_idiv E dL_act_137 (by omega) (fun z33 hz33 => ?_)
    refine lv_iload_n Ex Eb dL_act_138 rfl (lv_at hl 3 rfl) ?_
    refine lv_iconst (v := iI 2) Ex Eb dL_act_139 rfl ?_
    refine lw_irem E dL_act_140 (by omega) (fun z34 hz34 => ?_)
    refine lo_if_ne (tgt := 149) E dL_act_141 (by decide) (by omega) (fun c35 => ?_) (fun c35 => ?_)
    · skip
      refine lv_bipush (v := iI 12) Ex Eb dL_act_149 rfl ?_
      refine lw_irem E dL_act_151 (by omega) (fun z36 hz36 => ?_)
      refine lw_iadd E dL_act_152 (fun z37 hz37 => ?_)
      refine lw_cL (rest := []) E hK hV hw (kL_openLoan l X kS hst D (zUA Z t3) n (CV.ahead t3 hC) z31 z32 z37 (by omega) (by omega) (by omega)) (vx_cwSW 4 E.2.2.2.2 gL_act_L_openLoan rfl rfl rfl (by decide +kernel) ⟨Nat.le_of_ble_eq_true rfl, Nat.le_of_ble_eq_true rfl⟩) hl.1 rfl rfl (Nat.le_of_ble_eq_true rfl) dL_act_153 ⟨Nat.le_of_ble_eq_true rfl, Nat.le_of_ble_eq_true rfl⟩ (fun t38 H locs ht38 hw => ?_)
      have hw : lo_Wd X ((wC X D t38.2)) A9 s9.heap H locs := hw
      refine W.eq (g2 := F0 m9 156 ls [.int (iI t38.1)]) rfl ?_
      refine lv_pop Ex Eb dL_act_156 rfl ?_
      refine lv_goto (tgt := 312) Ex Eb dL_act_157 (by decide) ?_
      refine W.widen (k := 6) (n := 36) (Nat.le_of_ble_eq_true rfl) (Nat.le_of_ble_eq_true rfl) ?_
      exact lo_vret E hRt hLk hK hAe hw dL_act_312 wC_f ⟨t38.2, (ht38.mono (by omega)), rfl, rfl⟩
    · skip
      refine lv_bipush (v := iI 120) Ex Eb dL_act_144 rfl ?_
      refine lv_goto (tgt := 151) Ex Eb dL_act_146 (by decide) ?_
      refine lw_irem E dL_act_151 (by omega) (fun z39 hz39 => ?_)
      refine lw_iadd E dL_act_152 (fun z40 hz40 => ?_)
      refine lw_cL (rest := []) E hK hV hw (kL_openLoan l X kS hst D (zUA Z t3) n (CV.ahead t3 hC) z31 z32 z40 (by omega) (by omega) (by omega)) (vx_cwSW 4 E.2.2.2.2 gL_act_L_openLoan rfl rfl rfl (by decide +kernel) ⟨Nat.le_of_ble_eq_true rfl, Nat.le_of_ble_eq_true rfl⟩) hl.1 rfl rfl (Nat.le_of_ble_eq_true rfl) dL_act_153 ⟨Nat.le_of_ble_eq_true rfl, Nat.le_of_ble_eq_true rfl⟩ (fun t41 H locs ht41 hw => ?_)
      have hw : lo_Wd X ((wC X D t41.2)) A9 s9.heap H locs := hw
      refine W.eq (g2 := F0 m9 156 ls [.int (iI t41.1)]) rfl ?_
      refine lv_pop Ex Eb dL_act_156 rfl ?_
      refine lv_goto (tgt := 312) Ex Eb dL_act_157 (by decide) ?_
      refine W.widen (k := 6) (n := 36) (Nat.le_of_ble_eq_true rfl) (Nat.le_of_ble_eq_true rfl) ?_
      exact lo_vret E hRt hLk hK hAe hw dL_act_312 wC_f ⟨t41.2, (ht41.mono (by omega)), rfl, rfl⟩
  by_cases ts47_3 : z8 = 3
  · refine lo_tswI (off := 113) (tgt := 160) E dL_act_47 (by omega) (by omega) (by rw [ts47_3]; rfl) (by decide) ?_
    refine lv_aload_n Ex Eb dL_act_160 rfl (lv_at hl 4 rfl) ?_
    refine lv_iload Ex Eb dL_act_161 (lv_at hl 1 rfl) ?_
    refine lw_cL (rest := []) E hK hV hw (kL_pay l X kS hst D (zUA Z t3) n (CV.ahead t3 hC) z4 (by omega)) (vx_cwSW 2 E.2.2.2.2 gL_act_L_pay rfl rfl rfl (by decide +kernel) ⟨Nat.le_of_ble_eq_true rfl, Nat.le_of_ble_eq_true rfl⟩) hl.1 rfl rfl (Nat.le_of_ble_eq_true rfl) dL_act_163 ⟨Nat.le_of_ble_eq_true rfl, Nat.le_of_ble_eq_true rfl⟩ (fun t42 H locs ht42 hw => ?_)
    have hw : lo_Wd X ((wC X D t42.2)) A9 s9.heap H locs := hw
    refine W.eq (g2 := F0 m9 166 ls [.int (iI t42.1)]) rfl ?_
    refine lv_pop Ex Eb dL_act_166 rfl ?_
    refine lv_goto (tgt := 312) Ex Eb dL_act_167 (by decide) ?_
    refine W.widen (k := 6) (n := 36) (Nat.le_of_ble_eq_true rfl) (Nat.le_of_ble_eq_true rfl) ?_
    exact lo_vret E hRt hLk hK hAe hw dL_act_312 wC_f ⟨t42.2, (ht42.mono (by omega)), rfl, rfl⟩
  by_cases ts47_4 : z8 = 4
  · refine lo_tswI (off := 113) (tgt := 160) E dL_act_47 (by omega) (by omega) (by rw [ts47_4]; rfl) (by decide) ?_
    refine lv_aload_n Ex Eb dL_act_160 rfl (lv_at hl 4 rfl) ?_
    refine lv_iload Ex Eb dL_act_161 (lv_at hl 1 rfl) ?_
    refine lw_cL (rest := []) E hK hV hw (kL_pay l X kS hst D (zUA Z t3) n (CV.ahead t3 hC) z4 (by omega)) (vx_cwSW 2 E.2.2.2.2 gL_act_L_pay rfl rfl rfl (by decide +kernel) ⟨Nat.le_of_ble_eq_true rfl, Nat.le_of_ble_eq_true rfl⟩) hl.1 rfl rfl (Nat.le_of_ble_eq_true rfl) dL_act_163 ⟨Nat.le_of_ble_eq_true rfl, Nat.le_of_ble_eq_true rfl⟩ (fun t43 H locs ht43 hw => ?_)
    have hw : lo_Wd X ((wC X D t43.2)) A9 s9.heap H locs := hw
    refine W.eq (g2 := F0 m9 166 ls [.int (iI t43.1)]) rfl ?_
    refine lv_pop Ex Eb dL_act_166 rfl ?_
    refine lv_goto (tgt := 312) Ex Eb dL_act_167 (by decide) ?_
    refine W.widen (k := 6) (n := 36) (Nat.le_of_ble_eq_true rfl) (Nat.le_of_ble_eq_true rfl) ?_
    exact lo_vret E hRt hLk hK hAe hw dL_act_312 wC_f ⟨t43.2, (ht43.mono (by omega)), rfl, rfl⟩
  by_cases ts47_5 : z8 = 5
  · refine lo_tswI (off := 113) (tgt := 160) E dL_act_47 (by omega) (by omega) (by rw [ts47_5]; rfl) (by decide) ?_
    refine lv_aload_n Ex Eb dL_act_160 rfl (lv_at hl 4 rfl) ?_
    refine lv_iload Ex Eb dL_act_161 (lv_at hl 1 rfl) ?_
    refine lw_cL (rest := []) E hK hV hw (kL_pay l X kS hst D (zUA Z t3) n (CV.ahead t3 hC) z4 (by omega)) (vx_cwSW 2 E.2.2.2.2 gL_act_L_pay rfl rfl rfl (by decide +kernel) ⟨Nat.le_of_ble_eq_true rfl, Nat.le_of_ble_eq_true rfl⟩) hl.1 rfl rfl (Nat.le_of_ble_eq_true rfl) dL_act_163 ⟨Nat.le_of_ble_eq_true rfl, Nat.le_of_ble_eq_true rfl⟩ (fun t44 H locs ht44 hw => ?_)
    have hw : lo_Wd X ((wC X D t44.2)) A9 s9.heap H locs := hw
    refine W.eq (g2 := F0 m9 166 ls [.int (iI t44.1)]) rfl ?_
    refine lv_pop Ex Eb dL_act_166 rfl ?_
    refine lv_goto (tgt := 312) Ex Eb dL_act_167 (by decide) ?_
    refine W.widen (k := 6) (n := 36) (Nat.le_of_ble_eq_true rfl) (Nat.le_of_ble_eq_true rfl) ?_
    exact lo_vret E hRt hLk hK hAe hw dL_act_312 wC_f ⟨t44.2, (ht44.mono (by omega)), rfl, rfl⟩
  by_cases ts47_6 : z8 = 6
  · refine lo_tswI (off := 113) (tgt := 160) E dL_act_47 (by omega) (by omega) (by rw [ts47_6]; rfl) (by decide) ?_
    refine lv_aload_n Ex Eb dL_act_160 rfl (lv_at hl 4 rfl) ?_
    refine lv_iload Ex Eb dL_act_161 (lv_at hl 1 rfl) ?_
    refine lw_cL (rest := []) E hK hV hw (kL_pay l X kS hst D (zUA Z t3) n (CV.ahead t3 hC) z4 (by omega)) (vx_cwSW 2 E.2.2.2.2 gL_act_L_pay rfl rfl rfl (by decide +kernel) ⟨Nat.le_of_ble_eq_true rfl, Nat.le_of_ble_eq_true rfl⟩) hl.1 rfl rfl (Nat.le_of_ble_eq_true rfl) dL_act_163 ⟨Nat.le_of_ble_eq_true rfl, Nat.le_of_ble_eq_true rfl⟩ (fun t45 H locs ht45 hw => ?_)
    have hw : lo_Wd X ((wC X D t45.2)) A9 s9.heap H locs := hw
    refine W.eq (g2 := F0 m9 166 ls [.int (iI t45.1)]) rfl ?_
    refine lv_pop Ex Eb dL_act_166 rfl ?_
    refine lv_goto (tgt := 312) Ex Eb dL_act_167 (by decide) ?_
    refine W.widen (k := 6) (n := 36) (Nat.le_of_ble_eq_true rfl) (Nat.le_of_ble_eq_true rfl) ?_
    exact lo_vret E hRt hLk hK hAe hw dL_act_312 wC_f ⟨t45.2, (ht45.mono (by omega)), rfl, rfl⟩
  by_cases ts47_7 : z8 = 7
  · refine lo_tswI (off := 123) (tgt := 170) E dL_act_47 (by omega) (by omega) (by rw [ts47_7]; rfl) (by decide) ?_
    refine lv_aload_n Ex Eb dL_act_170 rfl (lv_at hl 4 rfl) ?_
    refine lw_c7 (rest := []) E hK hV hw (qX7_payAll l X kS D (zUA Z t3) n (CV.ahead t3 hC)  ) (cwV 0 E.2.2.2.2 gL_act_X7_payAll rfl rfl rfl (by decide +kernel) ⟨Nat.le_of_ble_eq_true rfl, Nat.le_of_ble_eq_true rfl⟩) hl.1 rfl rfl (Nat.le_of_ble_eq_true rfl) dL_act_171 ⟨Nat.le_of_ble_eq_true rfl, Nat.le_of_ble_eq_true rfl⟩ (fun t46 H locs ht46 hw => ?_)
    have hw : lo_Wd X ((wC X D t46.2)) A9 s9.heap H locs := hw
    refine W.eq (g2 := F0 m9 174 ls [.int (iI t46.1)]) rfl ?_
    refine lv_pop Ex Eb dL_act_174 rfl ?_
    refine lv_goto (tgt := 312) Ex Eb dL_act_175 (by decide) ?_
    refine W.widen (k := 6) (n := 36) (Nat.le_of_ble_eq_true rfl) (Nat.le_of_ble_eq_true rfl) ?_
    exact lo_vret E hRt hLk hK hAe hw dL_act_312 wC_f ⟨t46.2, (ht46.mono (by omega)), rfl, rfl⟩
  by_cases ts47_8 : z8 = 8
  · refine lo_tswI (off := 131) (tgt := 178) E dL_act_47 (by omega) (by omega) (by rw [ts47_8]; rfl) (by decide) ?_
    refine lv_aload_n Ex Eb dL_act_178 rfl (lv_at hl 4 rfl) ?_
    refine lv_iload Ex Eb dL_act_179 (lv_at hl 1 rfl) ?_
    refine lv_iload Ex Eb dL_act_181 (lv_at hl 0 rfl) ?_
    refine lo_callSE (rest := [.int (iI z4), .ref (D.1 0)]) E hK hw hV (kL_amount l X kS z7) (cwS 1 E.2.2.2.2 gL_act_L_amount rfl rfl rfl (by decide +kernel) ⟨Nat.le_of_ble_eq_true rfl, Nat.le_of_ble_eq_true rfl⟩) [] rfl rfl hl.1 rfl rfl (Nat.le_of_ble_eq_true rfl) dL_act_183 ⟨Nat.le_of_ble_eq_true rfl, Nat.le_of_ble_eq_true rfl⟩ (fun v w1 H locs hq hw => ?_)
    obtain ⟨z47, hz47, rfl, rfl⟩ := hq
    have hw : lo_Wd X ((wC X D (zUA Z t3))) A9 s9.heap H locs := hw
    refine W.eq (g2 := F0 m9 186 ls [.int (iI z47), .int (iI z4), .ref (D.1 0)]) rfl ?_
    refine lv_iload_n Ex Eb dL_act_186 rfl (lv_at hl 3 rfl) ?_
    refine lv_bipush (v := iI 8) Ex Eb dL_act_187 rfl ?_
    refine lw_idiv E dL_act_189 (by omega) (fun z48 hz48 => ?_)
    refine lv_iconst (v := iI 2) Ex Eb dL_act_190 rfl ?_
    refine lw_irem E dL_act_191 (by omega) (fun z49 hz49 => ?_)
    refine lo_if_ne (tgt := 199) E dL_act_192 (by decide) (by omega) (fun c50 => ?_) (fun c50 => ?_)
    · skip
      refine lv_iconst (v := iI 0) Ex Eb dL_act_199 rfl ?_
      refine lw_cL (rest := []) E hK hV hw (kL_payExtra l X kS hst D (zUA Z t3) n (CV.ahead t3 hC) z4 z47 0 (by omega) (by omega) (by omega)) (vx_cwSW 4 E.2.2.2.2 gL_act_L_payExtra rfl rfl rfl (by decide +kernel) ⟨Nat.le_of_ble_eq_true rfl, Nat.le_of_ble_eq_true rfl⟩) hl.1 rfl rfl (Nat.le_of_ble_eq_true rfl) dL_act_200 ⟨Nat.le_of_ble_eq_true rfl, Nat.le_of_ble_eq_true rfl⟩ (fun t51 H locs ht51 hw => ?_)
      have hw : lo_Wd X ((wC X D t51.2)) A9 s9.heap H locs := hw
      refine W.eq (g2 := F0 m9 203 ls [.int (iI t51.1)]) rfl ?_
      refine lv_pop Ex Eb dL_act_203 rfl ?_
      refine lv_goto (tgt := 312) Ex Eb dL_act_204 (by decide) ?_
      refine W.widen (k := 6) (n := 36) (Nat.le_of_ble_eq_true rfl) (Nat.le_of_ble_eq_true rfl) ?_
      exact lo_vret E hRt hLk hK hAe hw dL_act_312 wC_f ⟨t51.2, (ht51.mono (by omega)), rfl, rfl⟩
    · skip
      refine lv_iconst (v := iI 1) Ex Eb dL_act_195 rfl ?_
      refine lv_goto (tgt := 200) Ex Eb dL_act_196 (by decide) ?_
      refine lw_cL (rest := []) E hK hV hw (kL_payExtra l X kS hst D (zUA Z t3) n (CV.ahead t3 hC) z4 z47 1 (by omega) (by omega) (by omega)) (vx_cwSW 4 E.2.2.2.2 gL_act_L_payExtra rfl rfl rfl (by decide +kernel) ⟨Nat.le_of_ble_eq_true rfl, Nat.le_of_ble_eq_true rfl⟩) hl.1 rfl rfl (Nat.le_of_ble_eq_true rfl) dL_act_200 ⟨Nat.le_of_ble_eq_true rfl, Nat.le_of_ble_eq_true rfl⟩ (fun t52 H locs ht52 hw => ?_)
      have hw : lo_Wd X ((wC X D t52.2)) A9 s9.heap H locs := hw
      refine W.eq (g2 := F0 m9 203 ls [.int (iI t52.1)]) rfl ?_
      refine lv_pop Ex Eb dL_act_203 rfl ?_
      refine lv_goto (tgt := 312) Ex Eb dL_act_204 (by decide) ?_
      refine W.widen (k := 6) (n := 36) (Nat.le_of_ble_eq_true rfl) (Nat.le_of_ble_eq_true rfl) ?_
      exact lo_vret E hRt hLk hK hAe hw dL_act_312 wC_f ⟨t52.2, (ht52.mono (by omega)), rfl, rfl⟩
  by_cases ts47_9 : z8 = 9
  · refine lo_tswI (off := 131) (tgt := 178) E dL_act_47 (by omega) (by omega) (by rw [ts47_9]; rfl) (by decide) ?_
    refine lv_aload_n Ex Eb dL_act_178 rfl (lv_at hl 4 rfl) ?_
    refine lv_iload Ex Eb dL_act_179 (lv_at hl 1 rfl) ?_
    refine lv_iload Ex Eb dL_act_181 (lv_at hl 0 rfl) ?_
    refine lo_callSE (rest := [.int (iI z4), .ref (D.1 0)]) E hK hw hV (kL_amount l X kS z7) (cwS 1 E.2.2.2.2 gL_act_L_amount rfl rfl rfl (by decide +kernel) ⟨Nat.le_of_ble_eq_true rfl, Nat.le_of_ble_eq_true rfl⟩) [] rfl rfl hl.1 rfl rfl (Nat.le_of_ble_eq_true rfl) dL_act_183 ⟨Nat.le_of_ble_eq_true rfl, Nat.le_of_ble_eq_true rfl⟩ (fun v w1 H locs hq hw => ?_)
    obtain ⟨z53, hz53, rfl, rfl⟩ := hq
    have hw : lo_Wd X ((wC X D (zUA Z t3))) A9 s9.heap H locs := hw
    refine W.eq (g2 := F0 m9 186 ls [.int (iI z53), .int (iI z4), .ref (D.1 0)]) rfl ?_
    refine lv_iload_n Ex Eb dL_act_186 rfl (lv_at hl 3 rfl) ?_
    refine lv_bipush (v := iI 8) Ex Eb dL_act_187 rfl ?_
    refine lw_idiv E dL_act_189 (by omega) (fun z54 hz54 => ?_)
    refine lv_iconst (v := iI 2) Ex Eb dL_act_190 rfl ?_
    refine lw_irem E dL_act_191 (by omega) (fun z55 hz55 => ?_)
    refine lo_if_ne (tgt := 199) E dL_act_192 (by decide) (by omega) (fun c56 => ?_) (fun c56 => ?_)
    · skip
      refine lv_iconst (v := iI 0) Ex Eb dL_act_199 rfl ?_
      refine lw_cL (rest := []) E hK hV hw (kL_payExtra l X kS hst D (zUA Z t3) n (CV.ahead t3 hC) z4 z53 0 (by omega) (by omega) (by omega)) (vx_cwSW 4 E.2.2.2.2 gL_act_L_payExtra rfl rfl rfl (by decide +kernel) ⟨Nat.le_of_ble_eq_true rfl, Nat.le_of_ble_eq_true rfl⟩) hl.1 rfl rfl (Nat.le_of_ble_eq_true rfl) dL_act_200 ⟨Nat.le_of_ble_eq_true rfl, Nat.le_of_ble_eq_true rfl⟩ (fun t57 H locs ht57 hw => ?_)
      have hw : lo_Wd X ((wC X D t57.2)) A9 s9.heap H locs := hw
      refine W.eq (g2 := F0 m9 203 ls [.int (iI t57.1)]) rfl ?_
      refine lv_pop Ex Eb dL_act_203 rfl ?_
      refine lv_goto (tgt := 312) Ex Eb dL_act_204 (by decide) ?_
      refine W.widen (k := 6) (n := 36) (Nat.le_of_ble_eq_true rfl) (Nat.le_of_ble_eq_true rfl) ?_
      exact lo_vret E hRt hLk hK hAe hw dL_act_312 wC_f ⟨t57.2, (ht57.mono (by omega)), rfl, rfl⟩
    · skip
      refine lv_iconst (v := iI 1) Ex Eb dL_act_195 rfl ?_
      refine lv_goto (tgt := 200) Ex Eb dL_act_196 (by decide) ?_
      refine lw_cL (rest := []) E hK hV hw (kL_payExtra l X kS hst D (zUA Z t3) n (CV.ahead t3 hC) z4 z53 1 (by omega) (by omega) (by omega)) (vx_cwSW 4 E.2.2.2.2 gL_act_L_payExtra rfl rfl rfl (by decide +kernel) ⟨Nat.le_of_ble_eq_true rfl, Nat.le_of_ble_eq_true rfl⟩) hl.1 rfl rfl (Nat.le_of_ble_eq_true rfl) dL_act_200 ⟨Nat.le_of_ble_eq_true rfl, Nat.le_of_ble_eq_true rfl⟩ (fun t58 H locs ht58 hw => ?_)
      have hw : lo_Wd X ((wC X D t58.2)) A9 s9.heap H locs := hw
      refine W.eq (g2 := F0 m9 203 ls [.int (iI t58.1)]) rfl ?_
      refine lv_pop Ex Eb dL_act_203 rfl ?_
      refine lv_goto (tgt := 312) Ex Eb dL_act_204 (by decide) ?_
      refine W.widen (k := 6) (n := 36) (Nat.le_of_ble_eq_true rfl) (Nat.le_of_ble_eq_true rfl) ?_
      exact lo_vret E hRt hLk hK hAe hw dL_act_312 wC_f ⟨t58.2, (ht58.mono (by omega)), rfl, rfl⟩
  by_cases ts47_10 : z8 = 10
  · refine lo_tswI (off := 160) (tgt := 207) E dL_act_47 (by omega) (by omega) (by rw [ts47_10]; rfl) (by decide) ?_
    refine lv_aload_n Ex Eb dL_act_207 rfl (lv_at hl 4 rfl) ?_
    refine lv_iload Ex Eb dL_act_208 (lv_at hl 1 rfl) ?_
    refine lw_cL (rest := []) E hK hV hw (kL_skipMonth l X kS hst D (zUA Z t3) n (CV.ahead t3 hC) z4 (by omega)) (vx_cwSW 2 E.2.2.2.2 gL_act_L_skipMonth rfl rfl rfl (by decide +kernel) ⟨Nat.le_of_ble_eq_true rfl, Nat.le_of_ble_eq_true rfl⟩) hl.1 rfl rfl (Nat.le_of_ble_eq_true rfl) dL_act_210 ⟨Nat.le_of_ble_eq_true rfl, Nat.le_of_ble_eq_true rfl⟩ (fun t59 H locs ht59 hw => ?_)
    have hw : lo_Wd X ((wC X D t59.2)) A9 s9.heap H locs := hw
    refine W.eq (g2 := F0 m9 213 ls [.int (iI t59.1)]) rfl ?_
    refine lv_pop Ex Eb dL_act_213 rfl ?_
    refine lv_goto (tgt := 312) Ex Eb dL_act_214 (by decide) ?_
    refine W.widen (k := 6) (n := 36) (Nat.le_of_ble_eq_true rfl) (Nat.le_of_ble_eq_true rfl) ?_
    exact lo_vret E hRt hLk hK hAe hw dL_act_312 wC_f ⟨t59.2, (ht59.mono (by omega)), rfl, rfl⟩
  by_cases ts47_11 : z8 = 11
  · refine lo_tswI (off := 170) (tgt := 217) E dL_act_47 (by omega) (by omega) (by rw [ts47_11]; rfl) (by decide) ?_
    refine lv_aload_n Ex Eb dL_act_217 rfl (lv_at hl 4 rfl) ?_
    refine lv_iload Ex Eb dL_act_218 (lv_at hl 1 rfl) ?_
    refine lv_iload Ex Eb dL_act_220 (lv_at hl 0 rfl) ?_
    refine lv_sipush (v := iI 3001) Ex Eb dL_act_222 rfl ?_
    refine lw_irem E dL_act_225 (by omega) (fun z60 hz60 => ?_)
    refine lw_cL (rest := []) E hK hV hw (kL_changeRate l X kS hst D (zUA Z t3) n (CV.ahead t3 hC) z4 z60 (by omega) (by omega)) (vx_cwSW 3 E.2.2.2.2 gL_act_L_changeRate rfl rfl rfl (by decide +kernel) ⟨Nat.le_of_ble_eq_true rfl, Nat.le_of_ble_eq_true rfl⟩) hl.1 rfl rfl (Nat.le_of_ble_eq_true rfl) dL_act_226 ⟨Nat.le_of_ble_eq_true rfl, Nat.le_of_ble_eq_true rfl⟩ (fun t61 H locs ht61 hw => ?_)
    have hw : lo_Wd X ((wC X D t61.2)) A9 s9.heap H locs := hw
    refine W.eq (g2 := F0 m9 229 ls [.int (iI t61.1)]) rfl ?_
    refine lv_pop Ex Eb dL_act_229 rfl ?_
    refine lv_goto (tgt := 312) Ex Eb dL_act_230 (by decide) ?_
    refine W.widen (k := 6) (n := 36) (Nat.le_of_ble_eq_true rfl) (Nat.le_of_ble_eq_true rfl) ?_
    exact lo_vret E hRt hLk hK hAe hw dL_act_312 wC_f ⟨t61.2, (ht61.mono (by omega)), rfl, rfl⟩
  by_cases ts47_12 : z8 = 12
  · refine lo_tswI (off := 186) (tgt := 233) E dL_act_47 (by omega) (by omega) (by rw [ts47_12]; rfl) (by decide) ?_
    refine lv_aload_n Ex Eb dL_act_233 rfl (lv_at hl 4 rfl) ?_
    refine lv_iload Ex Eb dL_act_234 (lv_at hl 1 rfl) ?_
    refine lv_iconst (v := iI 1) Ex Eb dL_act_236 rfl ?_
    refine lv_iload Ex Eb dL_act_237 (lv_at hl 0 rfl) ?_
    refine lv_bipush (v := iI 60) Ex Eb dL_act_239 rfl ?_
    refine lw_irem E dL_act_241 (by omega) (fun z62 hz62 => ?_)
    refine lw_iadd E dL_act_242 (fun z63 hz63 => ?_)
    refine lw_cL (rest := []) E hK hV hw (kL_extendTerm l X kS hst D (zUA Z t3) n (CV.ahead t3 hC) z4 z63 (by omega) (by omega)) (vx_cwSW 3 E.2.2.2.2 gL_act_L_extendTerm rfl rfl rfl (by decide +kernel) ⟨Nat.le_of_ble_eq_true rfl, Nat.le_of_ble_eq_true rfl⟩) hl.1 rfl rfl (Nat.le_of_ble_eq_true rfl) dL_act_243 ⟨Nat.le_of_ble_eq_true rfl, Nat.le_of_ble_eq_true rfl⟩ (fun t64 H locs ht64 hw => ?_)
    have hw : lo_Wd X ((wC X D t64.2)) A9 s9.heap H locs := hw
    refine W.eq (g2 := F0 m9 246 ls [.int (iI t64.1)]) rfl ?_
    refine lv_pop Ex Eb dL_act_246 rfl ?_
    refine lv_goto (tgt := 312) Ex Eb dL_act_247 (by decide) ?_
    refine W.widen (k := 6) (n := 36) (Nat.le_of_ble_eq_true rfl) (Nat.le_of_ble_eq_true rfl) ?_
    exact lo_vret E hRt hLk hK hAe hw dL_act_312 wC_f ⟨t64.2, (ht64.mono (by omega)), rfl, rfl⟩
  by_cases ts47_13 : z8 = 13
  · refine lo_tswI (off := 203) (tgt := 250) E dL_act_47 (by omega) (by omega) (by rw [ts47_13]; rfl) (by decide) ?_
    refine lv_aload_n Ex Eb dL_act_250 rfl (lv_at hl 4 rfl) ?_
    refine lv_iload Ex Eb dL_act_251 (lv_at hl 1 rfl) ?_
    refine lv_iload Ex Eb dL_act_253 (lv_at hl 0 rfl) ?_
    refine lv_sipush (v := iI 3001) Ex Eb dL_act_255 rfl ?_
    refine lw_irem E dL_act_258 (by omega) (fun z65 hz65 => ?_)
    refine lv_iconst (v := iI 1) Ex Eb dL_act_259 rfl ?_
    refine lv_iload Ex Eb dL_act_260 (lv_at hl 0 rfl) ?_
    refine lv_sipush (v := iI 4096) Ex Eb dL_act_262 rfl ?_
    refine lw_idiv E dL_act_265 (by omega) (fun z66 hz66 => ?_)
    refine lv_bipush (v := iI 120) Ex Eb dL_act_266 rfl ?_
    refine lw_irem E dL_act_268 (by omega) (fun z67 hz67 => ?_)
    refine lw_iadd E dL_act_269 (fun z68 hz68 => ?_)
    refine lw_cL (rest := []) E hK hV hw (kL_refinance l X kS hst D (zUA Z t3) n (CV.ahead t3 hC) z4 z65 z68 (by omega) (by omega) (by omega)) (vx_cwSW 4 E.2.2.2.2 gL_act_L_refinance rfl rfl rfl (by decide +kernel) ⟨Nat.le_of_ble_eq_true rfl, Nat.le_of_ble_eq_true rfl⟩) hl.1 rfl rfl (Nat.le_of_ble_eq_true rfl) dL_act_270 ⟨Nat.le_of_ble_eq_true rfl, Nat.le_of_ble_eq_true rfl⟩ (fun t69 H locs ht69 hw => ?_)
    have hw : lo_Wd X ((wC X D t69.2)) A9 s9.heap H locs := hw
    refine W.eq (g2 := F0 m9 273 ls [.int (iI t69.1)]) rfl ?_
    refine lv_pop Ex Eb dL_act_273 rfl ?_
    refine lv_goto (tgt := 312) Ex Eb dL_act_274 (by decide) ?_
    refine W.widen (k := 6) (n := 36) (Nat.le_of_ble_eq_true rfl) (Nat.le_of_ble_eq_true rfl) ?_
    exact lo_vret E hRt hLk hK hAe hw dL_act_312 wC_f ⟨t69.2, (ht69.mono (by omega)), rfl, rfl⟩
  by_cases ts47_14 : z8 = 14
  · refine lo_tswI (off := 230) (tgt := 277) E dL_act_47 (by omega) (by omega) (by rw [ts47_14]; rfl) (by decide) ?_
    refine lv_aload_n Ex Eb dL_act_277 rfl (lv_at hl 4 rfl) ?_
    refine lv_iload Ex Eb dL_act_278 (lv_at hl 0 rfl) ?_
    refine lo_callSE (rest := [.ref (D.1 0)]) E hK hw hV (kL_amount l X kS z7) (cwS 1 E.2.2.2.2 gL_act_L_amount rfl rfl rfl (by decide +kernel) ⟨Nat.le_of_ble_eq_true rfl, Nat.le_of_ble_eq_true rfl⟩) [] rfl rfl hl.1 rfl rfl (Nat.le_of_ble_eq_true rfl) dL_act_280 ⟨Nat.le_of_ble_eq_true rfl, Nat.le_of_ble_eq_true rfl⟩ (fun v w1 H locs hq hw => ?_)
    obtain ⟨z70, hz70, rfl, rfl⟩ := hq
    have hw : lo_Wd X ((wC X D (zUA Z t3))) A9 s9.heap H locs := hw
    refine W.eq (g2 := F0 m9 283 ls [.int (iI z70), .ref (D.1 0)]) rfl ?_
    refine lw_cL (rest := []) E hK hV hw (kL_spendExtra l X kS hst D (zUA Z t3) n (CV.ahead t3 hC) z70 (by omega)) (vx_cwSW 2 E.2.2.2.2 gL_act_L_spendExtra rfl rfl rfl (by decide +kernel) ⟨Nat.le_of_ble_eq_true rfl, Nat.le_of_ble_eq_true rfl⟩) hl.1 rfl rfl (Nat.le_of_ble_eq_true rfl) dL_act_283 ⟨Nat.le_of_ble_eq_true rfl, Nat.le_of_ble_eq_true rfl⟩ (fun t71 H locs ht71 hw => ?_)
    have hw : lo_Wd X ((wC X D t71.2)) A9 s9.heap H locs := hw
    refine W.eq (g2 := F0 m9 286 ls [.int (iI t71.1)]) rfl ?_
    refine lv_pop Ex Eb dL_act_286 rfl ?_
    refine lv_goto (tgt := 312) Ex Eb dL_act_287 (by decide) ?_
    refine W.widen (k := 6) (n := 36) (Nat.le_of_ble_eq_true rfl) (Nat.le_of_ble_eq_true rfl) ?_
    exact lo_vret E hRt hLk hK hAe hw dL_act_312 wC_f ⟨t71.2, (ht71.mono (by omega)), rfl, rfl⟩
  refine lo_tswO (tgt := 290) E dL_act_47 (by omega) (by omega) (by decide) ?_
  refine lv_iconst (v := iI 0) Ex Eb dL_act_290 rfl ?_
  refine lv_istore (lv' := [(7, .int (iI 0)), (6, .int (iI z7)), (5, .int (iI z4)), (4, .int (iI (max 1 (Pn (zP Z))))), (3, .int (iI z2)), (0, .ref (D.1 0)), (1, .ref (kS 21)), (2, .int (iI k))]) Ex Eb dL_act_291 hl (by decide) rfl (fun ls hl => ?_)
  refine lv_iload Ex Eb dL_act_293 (lv_at hl 0 rfl) ?_
  refine lv_iconst (v := iI 3) Ex Eb dL_act_295 rfl ?_
  refine lo_icmp_ge (tgt := 312) E dL_act_296 (by decide) (by omega) (by omega) (fun c72 => ?_) (fun c72 => ?_)
  · exact absurd c72 (by omega)
  · skip
    refine lv_aload_n Ex Eb dL_act_299 rfl (lv_at hl 5 rfl) ?_
    refine lv_iload Ex Eb dL_act_300 (lv_at hl 2 rfl) ?_
    refine lw_cL (rest := []) E hK hV hw (kL_pay l X kS hst D (zUA Z t3) n (CV.ahead t3 hC) z4 (by omega)) (vx_cwSW 2 E.2.2.2.2 gL_act_L_pay rfl rfl rfl (by decide +kernel) ⟨Nat.le_of_ble_eq_true rfl, Nat.le_of_ble_eq_true rfl⟩) hl.1 rfl rfl (Nat.le_of_ble_eq_true rfl) dL_act_302 ⟨Nat.le_of_ble_eq_true rfl, Nat.le_of_ble_eq_true rfl⟩ (fun t73 H locs ht73 hw => ?_)
    have hw : lo_Wd X ((wC X D t73.2)) A9 s9.heap H locs := hw
    refine W.eq (g2 := F0 m9 305 ls [.int (iI t73.1)]) rfl ?_
    refine lv_pop Ex Eb dL_act_305 rfl ?_
    refine lo_iinc (lv' := [(7, .int (iI (0 + 1))), (6, .int (iI z7)), (5, .int (iI z4)), (4, .int (iI (max 1 (Pn (zP Z))))), (3, .int (iI z2)), (0, .ref (D.1 0)), (1, .ref (kS 21)), (2, .int (iI k))]) E dL_act_306 hl (k := 0) rfl (by decide) rfl (fun ls hl => ?_)
    refine lv_goto (tgt := 293) Ex Eb dL_act_309 (by decide) ?_
    refine lv_iload Ex Eb dL_act_293 (lv_at hl 0 rfl) ?_
    refine lv_iconst (v := iI 3) Ex Eb dL_act_295 rfl ?_
    refine lo_icmp_ge (tgt := 312) E dL_act_296 (by decide) (by omega) (by omega) (fun c74 => ?_) (fun c74 => ?_)
    · exact absurd c74 (by omega)
    · skip
      refine lv_aload_n Ex Eb dL_act_299 rfl (lv_at hl 5 rfl) ?_
      refine lv_iload Ex Eb dL_act_300 (lv_at hl 2 rfl) ?_
      refine lw_cL (rest := []) E hK hV hw (kL_pay l X kS hst D t73.2 (n + 1) ht73 z4 (by omega)) (vx_cwSW 2 E.2.2.2.2 gL_act_L_pay rfl rfl rfl (by decide +kernel) ⟨Nat.le_of_ble_eq_true rfl, Nat.le_of_ble_eq_true rfl⟩) hl.1 rfl rfl (Nat.le_of_ble_eq_true rfl) dL_act_302 ⟨Nat.le_of_ble_eq_true rfl, Nat.le_of_ble_eq_true rfl⟩ (fun t75 H locs ht75 hw => ?_)
      have hw : lo_Wd X ((wC X D t75.2)) A9 s9.heap H locs := hw
      refine W.eq (g2 := F0 m9 305 ls [.int (iI t75.1)]) rfl ?_
      refine lv_pop Ex Eb dL_act_305 rfl ?_
      refine lo_iinc (lv' := [(7, .int (iI ((0 + 1) + 1))), (6, .int (iI z7)), (5, .int (iI z4)), (4, .int (iI (max 1 (Pn (zP Z))))), (3, .int (iI z2)), (0, .ref (D.1 0)), (1, .ref (kS 21)), (2, .int (iI k))]) E dL_act_306 hl (k := 0) rfl (by decide) rfl (fun ls hl => ?_)
      refine lv_goto (tgt := 293) Ex Eb dL_act_309 (by decide) ?_
      refine lv_iload Ex Eb dL_act_293 (lv_at hl 0 rfl) ?_
      refine lv_iconst (v := iI 3) Ex Eb dL_act_295 rfl ?_
      refine lo_icmp_ge (tgt := 312) E dL_act_296 (by decide) (by omega) (by omega) (fun c76 => ?_) (fun c76 => ?_)
      · exact absurd c76 (by omega)
      · skip
        refine lv_aload_n Ex Eb dL_act_299 rfl (lv_at hl 5 rfl) ?_
        refine lv_iload Ex Eb dL_act_300 (lv_at hl 2 rfl) ?_
        refine lw_cL (rest := []) E hK hV hw (kL_pay l X kS hst D t75.2 (n + 1 + 1) ht75 z4 (by omega)) (vx_cwSW 2 E.2.2.2.2 gL_act_L_pay rfl rfl rfl (by decide +kernel) ⟨Nat.le_of_ble_eq_true rfl, Nat.le_of_ble_eq_true rfl⟩) hl.1 rfl rfl (Nat.le_of_ble_eq_true rfl) dL_act_302 ⟨Nat.le_of_ble_eq_true rfl, Nat.le_of_ble_eq_true rfl⟩ (fun t77 H locs ht77 hw => ?_)
        have hw : lo_Wd X ((wC X D t77.2)) A9 s9.heap H locs := hw
        refine W.eq (g2 := F0 m9 305 ls [.int (iI t77.1)]) rfl ?_
        refine lv_pop Ex Eb dL_act_305 rfl ?_
        refine lo_iinc (lv' := [(7, .int (iI (((0 + 1) + 1) + 1))), (6, .int (iI z7)), (5, .int (iI z4)), (4, .int (iI (max 1 (Pn (zP Z))))), (3, .int (iI z2)), (0, .ref (D.1 0)), (1, .ref (kS 21)), (2, .int (iI k))]) E dL_act_306 hl (k := 0) rfl (by decide) rfl (fun ls hl => ?_)
        refine lv_goto (tgt := 293) Ex Eb dL_act_309 (by decide) ?_
        refine lv_iload Ex Eb dL_act_293 (lv_at hl 0 rfl) ?_
        refine lv_iconst (v := iI 3) Ex Eb dL_act_295 rfl ?_
        refine lo_icmp_ge (tgt := 312) E dL_act_296 (by decide) (by omega) (by omega) (fun c78 => ?_) (fun c78 => ?_)
        · skip
          exact lo_vret E hRt hLk hK hAe hw dL_act_312 wC_f ⟨t77.2, (ht77.mono (by omega)), rfl, rfl⟩
        · exact absurd c78 (by omega)
