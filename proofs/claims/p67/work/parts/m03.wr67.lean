theorem opz_b (L : Nat → Int) : opz L = 0 ∨ opz L = 1 := by
  unfold opz
  split
  · exact Or.inr rfl
  · exact Or.inl rfl
set_option maxHeartbeats 1000000 in
set_option maxRecDepth 100000 in
theorem kL_principal (l : Launch) (X : KX) (kS : Nat → Nat) (D : AD9) (Z : CZ) (i : Int) (hPI : PI (zP Z)) (hin : 0 ≤ i ∧ i < Pn (zP Z)) : CE l X kS yL_principal wsL_principal ({ frames := 8, cells := 0, slots := 0, locals := 142 }) [.ref (D.1 0), .int (iI i)] (wC X D Z) (fun v9 w9 => ∃ t : Nat → Int, True ∧ v9 = some (.int (iI (PL (zP Z) i.toNat 0))) ∧ w9 = wC X D (zUA Z t)) 0 0 := by
  refine lo_enterW (cc := cL_principal) (maxL := 3) (ret := some .int) (hh := [(0, 5, 6, 33)]) (lv := [(0, .ref (D.1 0)), (1, .int (iI i))]) (by decide) rfl rfl (Nat.le_of_ble_eq_true rfl) ?_
  intro p9 e9 s9 m9 bl9 me9 c9 A9 ls hA E hr hlocks hK hl hw hV hT
  have Ex := E.1
  have Eb := E.2.1
  refine lv_aload_n Ex Eb dL_principal_0 rfl (lv_at hl 0 rfl) ?_
  refine lv_iload_n Ex Eb dL_principal_1 rfl (lv_at hl 1 rfl) ?_
  refine lw_c7 (rest := []) E hK hV hw (qX7_principal l X kS D Z i hPI hin) (cwV 1 E.2.2.2.2 gL_principal_X7_principal rfl rfl rfl (by decide +kernel) ⟨Nat.le_of_ble_eq_true rfl, Nat.le_of_ble_eq_true rfl⟩) hl.1 rfl rfl (Nat.le_of_ble_eq_true rfl) dL_principal_2 ⟨Nat.le_of_ble_eq_true rfl, Nat.le_of_ble_eq_true rfl⟩ (fun t H locs hq hw => ?_)
  exact lo_iret E hr hlocks hK hA hw dL_principal_5 wC_f ⟨t, trivial, rfl, rfl⟩
set_option maxHeartbeats 1000000 in
set_option maxRecDepth 100000 in
theorem kL_balance (l : Launch) (X : KX) (kS : Nat → Nat) (D : AD9) (Z : CZ) (i : Int) (hPI : PI (zP Z)) (hin : 0 ≤ i ∧ i < Pn (zP Z)) : CE l X kS yL_balance wsL_balance ({ frames := 8, cells := 0, slots := 0, locals := 142 }) [.ref (D.1 0), .int (iI i)] (wC X D Z) (fun v9 w9 => ∃ t : Nat → Int, True ∧ v9 = some (.int (iI (PL (zP Z) i.toNat 1))) ∧ w9 = wC X D (zUA Z t)) 0 0 := by
  refine lo_enterW (cc := cL_balance) (maxL := 3) (ret := some .int) (hh := [(0, 5, 6, 33)]) (lv := [(0, .ref (D.1 0)), (1, .int (iI i))]) (by decide) rfl rfl (Nat.le_of_ble_eq_true rfl) ?_
  intro p9 e9 s9 m9 bl9 me9 c9 A9 ls hA E hr hlocks hK hl hw hV hT
  have Ex := E.1
  have Eb := E.2.1
  refine lv_aload_n Ex Eb dL_balance_0 rfl (lv_at hl 0 rfl) ?_
  refine lv_iload_n Ex Eb dL_balance_1 rfl (lv_at hl 1 rfl) ?_
  refine lw_c7 (rest := []) E hK hV hw (qX7_balance l X kS D Z i hPI hin) (cwV 1 E.2.2.2.2 gL_balance_X7_balance rfl rfl rfl (by decide +kernel) ⟨Nat.le_of_ble_eq_true rfl, Nat.le_of_ble_eq_true rfl⟩) hl.1 rfl rfl (Nat.le_of_ble_eq_true rfl) dL_balance_2 ⟨Nat.le_of_ble_eq_true rfl, Nat.le_of_ble_eq_true rfl⟩ (fun t H locs hq hw => ?_)
  exact lo_iret E hr hlocks hK hA hw dL_balance_5 wC_f ⟨t, trivial, rfl, rfl⟩
set_option maxHeartbeats 1000000 in
set_option maxRecDepth 100000 in
theorem kL_rate (l : Launch) (X : KX) (kS : Nat → Nat) (D : AD9) (Z : CZ) (i : Int) (hPI : PI (zP Z)) (hin : 0 ≤ i ∧ i < Pn (zP Z)) : CE l X kS yL_rate wsL_rate ({ frames := 8, cells := 0, slots := 0, locals := 142 }) [.ref (D.1 0), .int (iI i)] (wC X D Z) (fun v9 w9 => ∃ t : Nat → Int, True ∧ v9 = some (.int (iI (PL (zP Z) i.toNat 2))) ∧ w9 = wC X D (zUA Z t)) 0 0 := by
  refine lo_enterW (cc := cL_rate) (maxL := 3) (ret := some .int) (hh := [(0, 5, 6, 33)]) (lv := [(0, .ref (D.1 0)), (1, .int (iI i))]) (by decide) rfl rfl (Nat.le_of_ble_eq_true rfl) ?_
  intro p9 e9 s9 m9 bl9 me9 c9 A9 ls hA E hr hlocks hK hl hw hV hT
  have Ex := E.1
  have Eb := E.2.1
  refine lv_aload_n Ex Eb dL_rate_0 rfl (lv_at hl 0 rfl) ?_
  refine lv_iload_n Ex Eb dL_rate_1 rfl (lv_at hl 1 rfl) ?_
  refine lw_c7 (rest := []) E hK hV hw (qX7_rate l X kS D Z i hPI hin) (cwV 1 E.2.2.2.2 gL_rate_X7_rate rfl rfl rfl (by decide +kernel) ⟨Nat.le_of_ble_eq_true rfl, Nat.le_of_ble_eq_true rfl⟩) hl.1 rfl rfl (Nat.le_of_ble_eq_true rfl) dL_rate_2 ⟨Nat.le_of_ble_eq_true rfl, Nat.le_of_ble_eq_true rfl⟩ (fun t H locs hq hw => ?_)
  exact lo_iret E hr hlocks hK hA hw dL_rate_5 wC_f ⟨t, trivial, rfl, rfl⟩
set_option maxHeartbeats 1000000 in
set_option maxRecDepth 100000 in
theorem kL_monthsLeft (l : Launch) (X : KX) (kS : Nat → Nat) (D : AD9) (Z : CZ) (i : Int) (hPI : PI (zP Z)) (hin : 0 ≤ i ∧ i < Pn (zP Z)) : CE l X kS yL_monthsLeft wsL_monthsLeft ({ frames := 8, cells := 0, slots := 0, locals := 142 }) [.ref (D.1 0), .int (iI i)] (wC X D Z) (fun v9 w9 => ∃ t : Nat → Int, True ∧ v9 = some (.int (iI (PL (zP Z) i.toNat 3))) ∧ w9 = wC X D (zUA Z t)) 0 0 := by
  refine lo_enterW (cc := cL_monthsLeft) (maxL := 3) (ret := some .int) (hh := [(0, 5, 6, 33)]) (lv := [(0, .ref (D.1 0)), (1, .int (iI i))]) (by decide) rfl rfl (Nat.le_of_ble_eq_true rfl) ?_
  intro p9 e9 s9 m9 bl9 me9 c9 A9 ls hA E hr hlocks hK hl hw hV hT
  have Ex := E.1
  have Eb := E.2.1
  refine lv_aload_n Ex Eb dL_monthsLeft_0 rfl (lv_at hl 0 rfl) ?_
  refine lv_iload_n Ex Eb dL_monthsLeft_1 rfl (lv_at hl 1 rfl) ?_
  refine lw_c7 (rest := []) E hK hV hw (qX7_monthsLeft l X kS D Z i hPI hin) (cwV 1 E.2.2.2.2 gL_monthsLeft_X7_monthsLeft rfl rfl rfl (by decide +kernel) ⟨Nat.le_of_ble_eq_true rfl, Nat.le_of_ble_eq_true rfl⟩) hl.1 rfl rfl (Nat.le_of_ble_eq_true rfl) dL_monthsLeft_2 ⟨Nat.le_of_ble_eq_true rfl, Nat.le_of_ble_eq_true rfl⟩ (fun t H locs hq hw => ?_)
  exact lo_iret E hr hlocks hK hA hw dL_monthsLeft_5 wC_f ⟨t, trivial, rfl, rfl⟩
set_option maxHeartbeats 1000000 in
set_option maxRecDepth 100000 in
theorem kL_installment (l : Launch) (X : KX) (kS : Nat → Nat) (D : AD9) (Z : CZ) (i : Int) (hPI : PI (zP Z)) (hin : 0 ≤ i ∧ i < Pn (zP Z)) : CE l X kS yL_installment wsL_installment ({ frames := 8, cells := 0, slots := 0, locals := 142 }) [.ref (D.1 0), .int (iI i)] (wC X D Z) (fun v9 w9 => ∃ t : Nat → Int, True ∧ v9 = some (.int (iI (PL (zP Z) i.toNat 4))) ∧ w9 = wC X D (zUA Z t)) 0 0 := by
  refine lo_enterW (cc := cL_installment) (maxL := 3) (ret := some .int) (hh := [(0, 5, 6, 33)]) (lv := [(0, .ref (D.1 0)), (1, .int (iI i))]) (by decide) rfl rfl (Nat.le_of_ble_eq_true rfl) ?_
  intro p9 e9 s9 m9 bl9 me9 c9 A9 ls hA E hr hlocks hK hl hw hV hT
  have Ex := E.1
  have Eb := E.2.1
  refine lv_aload_n Ex Eb dL_installment_0 rfl (lv_at hl 0 rfl) ?_
  refine lv_iload_n Ex Eb dL_installment_1 rfl (lv_at hl 1 rfl) ?_
  refine lw_c7 (rest := []) E hK hV hw (qX7_installment l X kS D Z i hPI hin) (cwV 1 E.2.2.2.2 gL_installment_X7_installment rfl rfl rfl (by decide +kernel) ⟨Nat.le_of_ble_eq_true rfl, Nat.le_of_ble_eq_true rfl⟩) hl.1 rfl rfl (Nat.le_of_ble_eq_true rfl) dL_installment_2 ⟨Nat.le_of_ble_eq_true rfl, Nat.le_of_ble_eq_true rfl⟩ (fun t H locs hq hw => ?_)
  exact lo_iret E hr hlocks hK hA hw dL_installment_5 wC_f ⟨t, trivial, rfl, rfl⟩
set_option maxHeartbeats 1000000 in
set_option maxRecDepth 100000 in
theorem kL_carry (l : Launch) (X : KX) (kS : Nat → Nat) (D : AD9) (Z : CZ) (i : Int) (hPI : PI (zP Z)) (hin : 0 ≤ i ∧ i < Pn (zP Z)) : CE l X kS yL_carry wsL_carry ({ frames := 8, cells := 0, slots := 0, locals := 142 }) [.ref (D.1 0), .int (iI i)] (wC X D Z) (fun v9 w9 => ∃ t : Nat → Int, True ∧ v9 = some (.int (iI (PL (zP Z) i.toNat 5))) ∧ w9 = wC X D (zUA Z t)) 0 0 := by
  refine lo_enterW (cc := cL_carry) (maxL := 3) (ret := some .int) (hh := [(0, 5, 6, 33)]) (lv := [(0, .ref (D.1 0)), (1, .int (iI i))]) (by decide) rfl rfl (Nat.le_of_ble_eq_true rfl) ?_
  intro p9 e9 s9 m9 bl9 me9 c9 A9 ls hA E hr hlocks hK hl hw hV hT
  have Ex := E.1
  have Eb := E.2.1
  refine lv_aload_n Ex Eb dL_carry_0 rfl (lv_at hl 0 rfl) ?_
  refine lv_iload_n Ex Eb dL_carry_1 rfl (lv_at hl 1 rfl) ?_
  refine lw_c7 (rest := []) E hK hV hw (qX7_carry l X kS D Z i hPI hin) (cwV 1 E.2.2.2.2 gL_carry_X7_carry rfl rfl rfl (by decide +kernel) ⟨Nat.le_of_ble_eq_true rfl, Nat.le_of_ble_eq_true rfl⟩) hl.1 rfl rfl (Nat.le_of_ble_eq_true rfl) dL_carry_2 ⟨Nat.le_of_ble_eq_true rfl, Nat.le_of_ble_eq_true rfl⟩ (fun t H locs hq hw => ?_)
  exact lo_iret E hr hlocks hK hA hw dL_carry_5 wC_f ⟨t, trivial, rfl, rfl⟩
set_option maxHeartbeats 1000000 in
set_option maxRecDepth 100000 in
theorem kL_interestSoFar (l : Launch) (X : KX) (kS : Nat → Nat) (D : AD9) (Z : CZ) (i : Int) (hPI : PI (zP Z)) (hin : 0 ≤ i ∧ i < Pn (zP Z)) : CE l X kS yL_interestSoFar wsL_interestSoFar ({ frames := 8, cells := 0, slots := 0, locals := 142 }) [.ref (D.1 0), .int (iI i)] (wC X D Z) (fun v9 w9 => ∃ t : Nat → Int, True ∧ v9 = some (.int (iI (PL (zP Z) i.toNat 6))) ∧ w9 = wC X D (zUA Z t)) 0 0 := by
  refine lo_enterW (cc := cL_interestSoFar) (maxL := 3) (ret := some .int) (hh := [(0, 5, 6, 33)]) (lv := [(0, .ref (D.1 0)), (1, .int (iI i))]) (by decide) rfl rfl (Nat.le_of_ble_eq_true rfl) ?_
  intro p9 e9 s9 m9 bl9 me9 c9 A9 ls hA E hr hlocks hK hl hw hV hT
  have Ex := E.1
  have Eb := E.2.1
  refine lv_aload_n Ex Eb dL_interestSoFar_0 rfl (lv_at hl 0 rfl) ?_
  refine lv_iload_n Ex Eb dL_interestSoFar_1 rfl (lv_at hl 1 rfl) ?_
  refine lw_c7 (rest := []) E hK hV hw (qX7_interestSoFar l X kS D Z i hPI hin) (cwV 1 E.2.2.2.2 gL_interestSoFar_X7_interestSoFar rfl rfl rfl (by decide +kernel) ⟨Nat.le_of_ble_eq_true rfl, Nat.le_of_ble_eq_true rfl⟩) hl.1 rfl rfl (Nat.le_of_ble_eq_true rfl) dL_interestSoFar_2 ⟨Nat.le_of_ble_eq_true rfl, Nat.le_of_ble_eq_true rfl⟩ (fun t H locs hq hw => ?_)
  exact lo_iret E hr hlocks hK hA hw dL_interestSoFar_5 wC_f ⟨t, trivial, rfl, rfl⟩
set_option maxHeartbeats 1000000 in
set_option maxRecDepth 100000 in
theorem kL_paidSoFar (l : Launch) (X : KX) (kS : Nat → Nat) (D : AD9) (Z : CZ) (i : Int) (hPI : PI (zP Z)) (hin : 0 ≤ i ∧ i < Pn (zP Z)) : CE l X kS yL_paidSoFar wsL_paidSoFar ({ frames := 8, cells := 0, slots := 0, locals := 142 }) [.ref (D.1 0), .int (iI i)] (wC X D Z) (fun v9 w9 => ∃ t : Nat → Int, True ∧ v9 = some (.int (iI (PL (zP Z) i.toNat 7))) ∧ w9 = wC X D (zUA Z t)) 0 0 := by
  refine lo_enterW (cc := cL_paidSoFar) (maxL := 3) (ret := some .int) (hh := [(0, 5, 6, 33)]) (lv := [(0, .ref (D.1 0)), (1, .int (iI i))]) (by decide) rfl rfl (Nat.le_of_ble_eq_true rfl) ?_
  intro p9 e9 s9 m9 bl9 me9 c9 A9 ls hA E hr hlocks hK hl hw hV hT
  have Ex := E.1
  have Eb := E.2.1
  refine lv_aload_n Ex Eb dL_paidSoFar_0 rfl (lv_at hl 0 rfl) ?_
  refine lv_iload_n Ex Eb dL_paidSoFar_1 rfl (lv_at hl 1 rfl) ?_
  refine lw_c7 (rest := []) E hK hV hw (qX7_paidSoFar l X kS D Z i hPI hin) (cwV 1 E.2.2.2.2 gL_paidSoFar_X7_paidSoFar rfl rfl rfl (by decide +kernel) ⟨Nat.le_of_ble_eq_true rfl, Nat.le_of_ble_eq_true rfl⟩) hl.1 rfl rfl (Nat.le_of_ble_eq_true rfl) dL_paidSoFar_2 ⟨Nat.le_of_ble_eq_true rfl, Nat.le_of_ble_eq_true rfl⟩ (fun t H locs hq hw => ?_)
  exact lo_iret E hr hlocks hK hA hw dL_paidSoFar_5 wC_f ⟨t, trivial, rfl, rfl⟩
set_option maxHeartbeats 1000000 in
set_option maxRecDepth 100000 in
theorem kL_paidMonths (l : Launch) (X : KX) (kS : Nat → Nat) (D : AD9) (Z : CZ) (i : Int) (hPI : PI (zP Z)) (hin : 0 ≤ i ∧ i < Pn (zP Z)) : CE l X kS yL_paidMonths wsL_paidMonths ({ frames := 8, cells := 0, slots := 0, locals := 142 }) [.ref (D.1 0), .int (iI i)] (wC X D Z) (fun v9 w9 => ∃ t : Nat → Int, True ∧ v9 = some (.int (iI (PL (zP Z) i.toNat 8))) ∧ w9 = wC X D (zUA Z t)) 0 0 := by
  refine lo_enterW (cc := cL_paidMonths) (maxL := 3) (ret := some .int) (hh := [(0, 5, 6, 33)]) (lv := [(0, .ref (D.1 0)), (1, .int (iI i))]) (by decide) rfl rfl (Nat.le_of_ble_eq_true rfl) ?_
  intro p9 e9 s9 m9 bl9 me9 c9 A9 ls hA E hr hlocks hK hl hw hV hT
  have Ex := E.1
  have Eb := E.2.1
  refine lv_aload_n Ex Eb dL_paidMonths_0 rfl (lv_at hl 0 rfl) ?_
  refine lv_iload_n Ex Eb dL_paidMonths_1 rfl (lv_at hl 1 rfl) ?_
  refine lw_c7 (rest := []) E hK hV hw (qX7_paidMonths l X kS D Z i hPI hin) (cwV 1 E.2.2.2.2 gL_paidMonths_X7_paidMonths rfl rfl rfl (by decide +kernel) ⟨Nat.le_of_ble_eq_true rfl, Nat.le_of_ble_eq_true rfl⟩) hl.1 rfl rfl (Nat.le_of_ble_eq_true rfl) dL_paidMonths_2 ⟨Nat.le_of_ble_eq_true rfl, Nat.le_of_ble_eq_true rfl⟩ (fun t H locs hq hw => ?_)
  exact lo_iret E hr hlocks hK hA hw dL_paidMonths_5 wC_f ⟨t, trivial, rfl, rfl⟩
set_option maxHeartbeats 1000000 in
set_option maxRecDepth 100000 in
theorem kL_skippedMonths (l : Launch) (X : KX) (kS : Nat → Nat) (D : AD9) (Z : CZ) (i : Int) (hPI : PI (zP Z)) (hin : 0 ≤ i ∧ i < Pn (zP Z)) : CE l X kS yL_skippedMonths wsL_skippedMonths ({ frames := 8, cells := 0, slots := 0, locals := 142 }) [.ref (D.1 0), .int (iI i)] (wC X D Z) (fun v9 w9 => ∃ t : Nat → Int, True ∧ v9 = some (.int (iI (PL (zP Z) i.toNat 9))) ∧ w9 = wC X D (zUA Z t)) 0 0 := by
  refine lo_enterW (cc := cL_skippedMonths) (maxL := 3) (ret := some .int) (hh := [(0, 5, 6, 33)]) (lv := [(0, .ref (D.1 0)), (1, .int (iI i))]) (by decide) rfl rfl (Nat.le_of_ble_eq_true rfl) ?_
  intro p9 e9 s9 m9 bl9 me9 c9 A9 ls hA E hr hlocks hK hl hw hV hT
  have Ex := E.1
  have Eb := E.2.1
  refine lv_aload_n Ex Eb dL_skippedMonths_0 rfl (lv_at hl 0 rfl) ?_
  refine lv_iload_n Ex Eb dL_skippedMonths_1 rfl (lv_at hl 1 rfl) ?_
  refine lw_c7 (rest := []) E hK hV hw (qX7_skippedMonths l X kS D Z i hPI hin) (cwV 1 E.2.2.2.2 gL_skippedMonths_X7_skippedMonths rfl rfl rfl (by decide +kernel) ⟨Nat.le_of_ble_eq_true rfl, Nat.le_of_ble_eq_true rfl⟩) hl.1 rfl rfl (Nat.le_of_ble_eq_true rfl) dL_skippedMonths_2 ⟨Nat.le_of_ble_eq_true rfl, Nat.le_of_ble_eq_true rfl⟩ (fun t H locs hq hw => ?_)
  exact lo_iret E hr hlocks hK hA hw dL_skippedMonths_5 wC_f ⟨t, trivial, rfl, rfl⟩
set_option maxHeartbeats 1000000 in
set_option maxRecDepth 100000 in
theorem kL_isOpen (l : Launch) (X : KX) (kS : Nat → Nat) (D : AD9) (Z : CZ) (i : Int) (hPI : PI (zP Z)) (hin : 0 ≤ i ∧ i < Pn (zP Z)) : CE l X kS yL_isOpen wsL_isOpen ({ frames := 8, cells := 0, slots := 0, locals := 142 }) [.ref (D.1 0), .int (iI i)] (wC X D Z) (fun v9 w9 => ∃ t : Nat → Int, True ∧ v9 = some (.int (iI (opz (PL (zP Z) i.toNat)))) ∧ w9 = wC X D (zUA Z t)) 0 0 := by
  refine lo_enterW (cc := cL_isOpen) (maxL := 3) (ret := some .boolean) (hh := [(0, 5, 6, 33)]) (lv := [(0, .ref (D.1 0)), (1, .int (iI i))]) (by decide) rfl rfl (Nat.le_of_ble_eq_true rfl) ?_
  intro p9 e9 s9 m9 bl9 me9 c9 A9 ls hA E hr hlocks hK hl hw hV hT
  have Ex := E.1
  have Eb := E.2.1
  refine lv_aload_n Ex Eb dL_isOpen_0 rfl (lv_at hl 0 rfl) ?_
  refine lv_iload_n Ex Eb dL_isOpen_1 rfl (lv_at hl 1 rfl) ?_
  refine lw_c7 (rest := []) E hK hV hw (qX7_isOpen l X kS D Z i hPI hin) (cwV 1 E.2.2.2.2 gL_isOpen_X7_isOpen rfl rfl rfl (by decide +kernel) ⟨Nat.le_of_ble_eq_true rfl, Nat.le_of_ble_eq_true rfl⟩) hl.1 rfl rfl (Nat.le_of_ble_eq_true rfl) dL_isOpen_2 ⟨Nat.le_of_ble_eq_true rfl, Nat.le_of_ble_eq_true rfl⟩ (fun t H locs hq hw => ?_)
  exact lo_zret E hr hlocks hK hA hw dL_isOpen_5 (nar_b (opz_b _)) wC_f ⟨t, trivial, rfl, rfl⟩
set_option maxHeartbeats 1000000 in
set_option maxRecDepth 100000 in
theorem kL_interestDue (l : Launch) (X : KX) (kS : Nat → Nat) (D : AD9) (Z : CZ) (i : Int) (hPI : PI (zP Z)) (hin : 0 ≤ i ∧ i < Pn (zP Z)) : CE l X kS yL_interestDue wsL_interestDue ({ frames := 8, cells := 0, slots := 0, locals := 142 }) [.ref (D.1 0), .int (iI i)] (wC X D Z) (fun v9 w9 => ∃ t : Nat → Int, True ∧ v9 = some (.int (iI (fI (PL (zP Z) i.toNat 1) (PL (zP Z) i.toNat 2) (PL (zP Z) i.toNat 5)))) ∧ w9 = wC X D (zUA Z t)) 0 0 := by
  refine lo_enterW (cc := cL_interestDue) (maxL := 3) (ret := some .int) (hh := [(0, 5, 6, 33)]) (lv := [(0, .ref (D.1 0)), (1, .int (iI i))]) (by decide) rfl rfl (Nat.le_of_ble_eq_true rfl) ?_
  intro p9 e9 s9 m9 bl9 me9 c9 A9 ls hA E hr hlocks hK hl hw hV hT
  have Ex := E.1
  have Eb := E.2.1
  refine lv_aload_n Ex Eb dL_interestDue_0 rfl (lv_at hl 0 rfl) ?_
  refine lv_iload_n Ex Eb dL_interestDue_1 rfl (lv_at hl 1 rfl) ?_
  refine lw_c7 (rest := []) E hK hV hw (qX7_interestDue l X kS D Z i hPI hin) (cwV 1 E.2.2.2.2 gL_interestDue_X7_interestDue rfl rfl rfl (by decide +kernel) ⟨Nat.le_of_ble_eq_true rfl, Nat.le_of_ble_eq_true rfl⟩) hl.1 rfl rfl (Nat.le_of_ble_eq_true rfl) dL_interestDue_2 ⟨Nat.le_of_ble_eq_true rfl, Nat.le_of_ble_eq_true rfl⟩ (fun t H locs hq hw => ?_)
  exact lo_iret E hr hlocks hK hA hw dL_interestDue_5 wC_f ⟨t, trivial, rfl, rfl⟩
set_option maxHeartbeats 1000000 in
set_option maxRecDepth 100000 in
theorem kL_amountDue (l : Launch) (X : KX) (kS : Nat → Nat) (D : AD9) (Z : CZ) (i : Int) (hPI : PI (zP Z)) (hin : 0 ≤ i ∧ i < Pn (zP Z)) : CE l X kS yL_amountDue wsL_amountDue ({ frames := 8, cells := 0, slots := 0, locals := 142 }) [.ref (D.1 0), .int (iI i)] (wC X D Z) (fun v9 w9 => ∃ t : Nat → Int, True ∧ v9 = some (.int (iI (dueL (PL (zP Z) i.toNat)))) ∧ w9 = wC X D (zUA Z t)) 0 0 := by
  refine lo_enterW (cc := cL_amountDue) (maxL := 3) (ret := some .int) (hh := [(0, 5, 6, 33)]) (lv := [(0, .ref (D.1 0)), (1, .int (iI i))]) (by decide) rfl rfl (Nat.le_of_ble_eq_true rfl) ?_
  intro p9 e9 s9 m9 bl9 me9 c9 A9 ls hA E hr hlocks hK hl hw hV hT
  have Ex := E.1
  have Eb := E.2.1
  refine lv_aload_n Ex Eb dL_amountDue_0 rfl (lv_at hl 0 rfl) ?_
  refine lv_iload_n Ex Eb dL_amountDue_1 rfl (lv_at hl 1 rfl) ?_
  refine lw_c7 (rest := []) E hK hV hw (qX7_amountDue l X kS D Z i hPI hin) (cwV 1 E.2.2.2.2 gL_amountDue_X7_amountDue rfl rfl rfl (by decide +kernel) ⟨Nat.le_of_ble_eq_true rfl, Nat.le_of_ble_eq_true rfl⟩) hl.1 rfl rfl (Nat.le_of_ble_eq_true rfl) dL_amountDue_2 ⟨Nat.le_of_ble_eq_true rfl, Nat.le_of_ble_eq_true rfl⟩ (fun t H locs hq hw => ?_)
  exact lo_iret E hr hlocks hK hA hw dL_amountDue_5 wC_f ⟨t, trivial, rfl, rfl⟩
set_option maxHeartbeats 1000000 in
set_option maxRecDepth 100000 in
theorem kL_interestAhead (l : Launch) (X : KX) (kS : Nat → Nat) (D : AD9) (Z : CZ) (i : Int) (hPI : PI (zP Z)) (hin : 0 ≤ i ∧ i < Pn (zP Z)) : CE l X kS yL_interestAhead wsL_interestAhead ({ frames := 8, cells := 0, slots := 0, locals := 142 }) [.ref (D.1 0), .int (iI i)] (wC X D Z) (fun v9 w9 => ∃ t : Nat → Int, True ∧ v9 = some (.int (iI (runL 120 (PL (zP Z) i.toNat) 6 - PL (zP Z) i.toNat 6))) ∧ w9 = wC X D (zUA Z t)) 0 0 := by
  refine lo_enterW (cc := cL_interestAhead) (maxL := 3) (ret := some .int) (hh := [(0, 5, 6, 33)]) (lv := [(0, .ref (D.1 0)), (1, .int (iI i))]) (by decide) rfl rfl (Nat.le_of_ble_eq_true rfl) ?_
  intro p9 e9 s9 m9 bl9 me9 c9 A9 ls hA E hr hlocks hK hl hw hV hT
  have Ex := E.1
  have Eb := E.2.1
  refine lv_aload_n Ex Eb dL_interestAhead_0 rfl (lv_at hl 0 rfl) ?_
  refine lv_iload_n Ex Eb dL_interestAhead_1 rfl (lv_at hl 1 rfl) ?_
  refine lw_c7 (rest := []) E hK hV hw (qX7_interestAhead l X kS D Z i hPI hin) (cwV 1 E.2.2.2.2 gL_interestAhead_X7_interestAhead rfl rfl rfl (by decide +kernel) ⟨Nat.le_of_ble_eq_true rfl, Nat.le_of_ble_eq_true rfl⟩) hl.1 rfl rfl (Nat.le_of_ble_eq_true rfl) dL_interestAhead_2 ⟨Nat.le_of_ble_eq_true rfl, Nat.le_of_ble_eq_true rfl⟩ (fun t H locs hq hw => ?_)
  exact lo_iret E hr hlocks hK hA hw dL_interestAhead_5 wC_f ⟨t, trivial, rfl, rfl⟩
set_option maxHeartbeats 1000000 in
set_option maxRecDepth 100000 in
theorem kL_lastDue (l : Launch) (X : KX) (kS : Nat → Nat) (D : AD9) (Z : CZ) (i : Int) (hPI : PI (zP Z)) (hin : 0 ≤ i ∧ i < Pn (zP Z)) : CE l X kS yL_lastDue wsL_lastDue ({ frames := 8, cells := 0, slots := 0, locals := 142 }) [.ref (D.1 0), .int (iI i)] (wC X D Z) (fun v9 w9 => ∃ t : Nat → Int, True ∧ v9 = some (.int (iI (lastL 120 (PL (zP Z) i.toNat) 0))) ∧ w9 = wC X D (zUA Z t)) 0 0 := by
  refine lo_enterW (cc := cL_lastDue) (maxL := 3) (ret := some .int) (hh := [(0, 5, 6, 33)]) (lv := [(0, .ref (D.1 0)), (1, .int (iI i))]) (by decide) rfl rfl (Nat.le_of_ble_eq_true rfl) ?_
  intro p9 e9 s9 m9 bl9 me9 c9 A9 ls hA E hr hlocks hK hl hw hV hT
  have Ex := E.1
  have Eb := E.2.1
  refine lv_aload_n Ex Eb dL_lastDue_0 rfl (lv_at hl 0 rfl) ?_
  refine lv_iload_n Ex Eb dL_lastDue_1 rfl (lv_at hl 1 rfl) ?_
  refine lw_c7 (rest := []) E hK hV hw (qX7_lastDue l X kS D Z i hPI hin) (cwV 1 E.2.2.2.2 gL_lastDue_X7_lastDue rfl rfl rfl (by decide +kernel) ⟨Nat.le_of_ble_eq_true rfl, Nat.le_of_ble_eq_true rfl⟩) hl.1 rfl rfl (Nat.le_of_ble_eq_true rfl) dL_lastDue_2 ⟨Nat.le_of_ble_eq_true rfl, Nat.le_of_ble_eq_true rfl⟩ (fun t H locs hq hw => ?_)
  exact lo_iret E hr hlocks hK hA hw dL_lastDue_5 wC_f ⟨t, trivial, rfl, rfl⟩
set_option maxHeartbeats 1000000 in
set_option maxRecDepth 100000 in
theorem kL_interestOfPayment (l : Launch) (X : KX) (kS : Nat → Nat) (D : AD9) (Z : CZ) (i k : Int) (hPI : PI (zP Z)) (hin : 0 ≤ i ∧ i < Pn (zP Z)) (hkk : 1 ≤ k ∧ k ≤ 120) : CE l X kS yL_interestOfPayment wsL_interestOfPayment ({ frames := 8, cells := 0, slots := 0, locals := 144 }) [.ref (D.1 0), .int (iI i), .int (iI k)] (wC X D Z) (fun v9 w9 => ∃ t : Nat → Int, True ∧ v9 = some (.int (iI (ipz (PL (zP Z) i.toNat) k))) ∧ w9 = wC X D (zUA Z t)) 0 0 := by
  refine lo_enterW (cc := cL_interestOfPayment) (maxL := 4) (ret := some .int) (hh := [(0, 6, 7, 33), (0, 6, 12, 25)]) (lv := [(0, .ref (D.1 0)), (1, .int (iI i)), (2, .int (iI k))]) (by decide) rfl rfl (Nat.le_of_ble_eq_true rfl) ?_
  intro p9 e9 s9 m9 bl9 me9 c9 A9 ls hA E hr hlocks hK hl hw hV hT
  have Ex := E.1
  have Eb := E.2.1
  refine lv_aload_n Ex Eb dL_interestOfPayment_0 rfl (lv_at hl 0 rfl) ?_
  refine lv_iload_n Ex Eb dL_interestOfPayment_1 rfl (lv_at hl 1 rfl) ?_
  refine lv_iload_n Ex Eb dL_interestOfPayment_2 rfl (lv_at hl 2 rfl) ?_
  refine lw_c7 (rest := []) E hK hV hw (qX7_interestOfPayment l X kS D Z i k hPI hin hkk) (cwV 2 E.2.2.2.2 gL_interestOfPayment_X7_interestOfPayment rfl rfl rfl (by decide +kernel) ⟨Nat.le_of_ble_eq_true rfl, Nat.le_of_ble_eq_true rfl⟩) hl.1 rfl rfl (Nat.le_of_ble_eq_true rfl) dL_interestOfPayment_3 ⟨Nat.le_of_ble_eq_true rfl, Nat.le_of_ble_eq_true rfl⟩ (fun t H locs hq hw => ?_)
  exact lo_iret E hr hlocks hK hA hw dL_interestOfPayment_6 wC_f ⟨t, trivial, rfl, rfl⟩
set_option maxHeartbeats 1000000 in
set_option maxRecDepth 100000 in
theorem kL_amountOfPayment (l : Launch) (X : KX) (kS : Nat → Nat) (D : AD9) (Z : CZ) (i k : Int) (hPI : PI (zP Z)) (hin : 0 ≤ i ∧ i < Pn (zP Z)) (hkk : 1 ≤ k ∧ k ≤ 120) : CE l X kS yL_amountOfPayment wsL_amountOfPayment ({ frames := 8, cells := 0, slots := 0, locals := 144 }) [.ref (D.1 0), .int (iI i), .int (iI k)] (wC X D Z) (fun v9 w9 => ∃ t : Nat → Int, True ∧ v9 = some (.int (iI (apz (PL (zP Z) i.toNat) k))) ∧ w9 = wC X D (zUA Z t)) 0 0 := by
  refine lo_enterW (cc := cL_amountOfPayment) (maxL := 4) (ret := some .int) (hh := [(0, 6, 7, 33), (0, 6, 12, 25)]) (lv := [(0, .ref (D.1 0)), (1, .int (iI i)), (2, .int (iI k))]) (by decide) rfl rfl (Nat.le_of_ble_eq_true rfl) ?_
  intro p9 e9 s9 m9 bl9 me9 c9 A9 ls hA E hr hlocks hK hl hw hV hT
  have Ex := E.1
  have Eb := E.2.1
  refine lv_aload_n Ex Eb dL_amountOfPayment_0 rfl (lv_at hl 0 rfl) ?_
  refine lv_iload_n Ex Eb dL_amountOfPayment_1 rfl (lv_at hl 1 rfl) ?_
  refine lv_iload_n Ex Eb dL_amountOfPayment_2 rfl (lv_at hl 2 rfl) ?_
  refine lw_c7 (rest := []) E hK hV hw (qX7_amountOfPayment l X kS D Z i k hPI hin hkk) (cwV 2 E.2.2.2.2 gL_amountOfPayment_X7_amountOfPayment rfl rfl rfl (by decide +kernel) ⟨Nat.le_of_ble_eq_true rfl, Nat.le_of_ble_eq_true rfl⟩) hl.1 rfl rfl (Nat.le_of_ble_eq_true rfl) dL_amountOfPayment_3 ⟨Nat.le_of_ble_eq_true rfl, Nat.le_of_ble_eq_true rfl⟩ (fun t H locs hq hw => ?_)
  exact lo_iret E hr hlocks hK hA hw dL_amountOfPayment_6 wC_f ⟨t, trivial, rfl, rfl⟩
set_option maxHeartbeats 1000000 in
set_option maxRecDepth 100000 in
theorem kL_balanceAfter (l : Launch) (X : KX) (kS : Nat → Nat) (D : AD9) (Z : CZ) (i k : Int) (hPI : PI (zP Z)) (hin : 0 ≤ i ∧ i < Pn (zP Z)) (hkk : 0 ≤ k ∧ k ≤ 120) : CE l X kS yL_balanceAfter wsL_balanceAfter ({ frames := 8, cells := 0, slots := 0, locals := 144 }) [.ref (D.1 0), .int (iI i), .int (iI k)] (wC X D Z) (fun v9 w9 => ∃ t : Nat → Int, True ∧ v9 = some (.int (iI (runL k.toNat (PL (zP Z) i.toNat) 1))) ∧ w9 = wC X D (zUA Z t)) 0 0 := by
  refine lo_enterW (cc := cL_balanceAfter) (maxL := 4) (ret := some .int) (hh := [(0, 6, 7, 33), (0, 6, 12, 25)]) (lv := [(0, .ref (D.1 0)), (1, .int (iI i)), (2, .int (iI k))]) (by decide) rfl rfl (Nat.le_of_ble_eq_true rfl) ?_
  intro p9 e9 s9 m9 bl9 me9 c9 A9 ls hA E hr hlocks hK hl hw hV hT
  have Ex := E.1
  have Eb := E.2.1
  refine lv_aload_n Ex Eb dL_balanceAfter_0 rfl (lv_at hl 0 rfl) ?_
  refine lv_iload_n Ex Eb dL_balanceAfter_1 rfl (lv_at hl 1 rfl) ?_
  refine lv_iload_n Ex Eb dL_balanceAfter_2 rfl (lv_at hl 2 rfl) ?_
  refine lw_c7 (rest := []) E hK hV hw (qX7_balanceAfter l X kS D Z i k hPI hin hkk) (cwV 2 E.2.2.2.2 gL_balanceAfter_X7_balanceAfter rfl rfl rfl (by decide +kernel) ⟨Nat.le_of_ble_eq_true rfl, Nat.le_of_ble_eq_true rfl⟩) hl.1 rfl rfl (Nat.le_of_ble_eq_true rfl) dL_balanceAfter_3 ⟨Nat.le_of_ble_eq_true rfl, Nat.le_of_ble_eq_true rfl⟩ (fun t H locs hq hw => ?_)
  exact lo_iret E hr hlocks hK hA hw dL_balanceAfter_6 wC_f ⟨t, trivial, rfl, rfl⟩
set_option maxHeartbeats 1000000 in
set_option maxRecDepth 100000 in
theorem kL_openLoan (l : Launch) (X : KX) (kS : Nat → Nat) (hst : l.stackTraces = false) (D : AD9) (Z : CZ) (n : Int) (hC : CV n Z) (k r m : Int) (hk9 : i32 k) (hr99 : i32 r) (hm99 : i32 m) : CE l X kS yL_openLoan wsL_openLoan ({ frames := 8, cells := 4, slots := 24, locals := 147 }) [.ref (D.1 0), .int (iI k), .int (iI r), .int (iI m)] (wC X D Z) (fun v9 w9 => ∃ t : Int × CZ, CV (n + 1) t.2 ∧ v9 = some (.int (iI t.1)) ∧ w9 = wC X D t.2) 4 24 := by
  refine lo_enterW (cc := cL_openLoan) (maxL := 5) (ret := some .int) (hh := [(0, 7, 8, 25), (0, 7, 14, 27)]) (lv := [(0, .ref (D.1 0)), (1, .int (iI k)), (2, .int (iI r)), (3, .int (iI m))]) (by decide) rfl rfl (Nat.le_of_ble_eq_true rfl) ?_
  intro p9 e9 s9 m9 bl9 me9 c9 A9 ls hA E hr hlocks hK hl hw hV hT
  have Ex := E.1
  have Eb := E.2.1
  refine lv_aload_n Ex Eb dL_openLoan_0 rfl (lv_at hl 0 rfl) ?_
  refine lv_iload_n Ex Eb dL_openLoan_1 rfl (lv_at hl 1 rfl) ?_
  refine lv_iload_n Ex Eb dL_openLoan_2 rfl (lv_at hl 2 rfl) ?_
  refine lv_iload_n Ex Eb dL_openLoan_3 rfl (lv_at hl 3 rfl) ?_
  refine lo_callVT (q0 := 0) (rest := []) E hK hw hV (qX7_openLoan l X kS hst D Z n hC k r m hk9 hr99 hm99) (cwV 3 E.2.2.2.2 gL_openLoan_X7_openLoan rfl rfl rfl (by decide +kernel) ⟨Nat.le_of_ble_eq_true rfl, Nat.le_of_ble_eq_true rfl⟩) wC_0 rfl (List.range' 0 145) (lw_ps wC_n) lw_nd hl.1 rfl rfl (Nat.le_of_ble_eq_true rfl) dL_openLoan_4 ⟨Nat.le_of_ble_eq_true rfl, Nat.le_of_ble_eq_true rfl⟩ (fun E9 ce9 q9 w1 H locs hq hw hx1 hx2 hx3 => ?_) (fun v w1 H locs hq hw => ?_)
  · obtain ⟨hE, rfl⟩ := hq
    have hw : lo_Wd X (wC X D Z) A9 s9.heap H locs := lo_cast (lw_sets wC_n wC_n) hw
    rcases hE with rfl | rfl
    · refine lo_catch (name := "java/lang/IllegalArgumentException") E [] (exE (0, 7, 8, 25)) [exE (0, 7, 14, 27)] (hT.trans rfl) (pass0 ) rfl (by decide) (E.2.2.2.2 _ (List.mem_of_getElem? (i := 1) rfl)) (hV.2.2.2.2.2.2.2 _ (List.mem_of_getElem? (i := 3) rfl)) hx1 hx2 hx3 ?_
      refine W.eq (g2 := F0 m9 8 ls [.ref q9]) rfl ?_
      refine lv_astore (lv' := [(4, .ref q9), (0, .ref (D.1 0)), (1, .int (iI k)), (2, .int (iI r)), (3, .int (iI m))]) Ex Eb dL_openLoan_8 hl (by decide) rfl (fun ls hl => ?_)
      refine lv_sipush (v := iI (-7777)) Ex Eb dL_openLoan_10 rfl ?_
      exact lo_iret E hr hlocks hK hA hw dL_openLoan_13 wC_f ⟨(-7777, Z), hC.mono (by omega), rfl, rfl⟩
    · refine lo_catch (name := "java/lang/IllegalStateException") E [exE (0, 7, 8, 25)] (exE (0, 7, 14, 27)) [] (hT.trans rfl) (pass1 (Or.inr ⟨by decide, "java/lang/IllegalArgumentException", E.2.2.2.2 _ (List.mem_of_getElem? (i := 1) rfl), hV.1.2.2.1⟩)) rfl (by decide) (E.2.2.2.2 _ (List.mem_of_getElem? (i := 2) rfl)) (hV.2.2.2.2.2.2.2 _ (List.mem_of_getElem? (i := 4) rfl)) hx1 hx2 hx3 ?_
      refine W.eq (g2 := F0 m9 14 ls [.ref q9]) rfl ?_
      refine lv_astore (lv' := [(4, .ref q9), (0, .ref (D.1 0)), (1, .int (iI k)), (2, .int (iI r)), (3, .int (iI m))]) Ex Eb dL_openLoan_14 hl (by decide) rfl (fun ls hl => ?_)
      refine lv_sipush (v := iI (-7777)) Ex Eb dL_openLoan_16 rfl ?_
      exact lo_iret E hr hlocks hK hA hw dL_openLoan_19 wC_f ⟨(-7777, Z), hC.mono (by omega), rfl, rfl⟩
  · obtain ⟨t, hF, rfl, rfl⟩ := hq
    have hw : lo_Wd X (wC X D t.2) A9 s9.heap H locs := lo_cast (lw_sets wC_n wC_n) hw
    refine W.eq (g2 := F0 m9 7 ls [.int (iI t.1)]) rfl ?_
    exact lo_iret E hr hlocks hK hA hw dL_openLoan_7 wC_f ⟨t, hF, rfl, rfl⟩
set_option maxHeartbeats 1000000 in
set_option maxRecDepth 100000 in
theorem kL_pay (l : Launch) (X : KX) (kS : Nat → Nat) (hst : l.stackTraces = false) (D : AD9) (Z : CZ) (n : Int) (hC : CV n Z) (i : Int) (hi9 : i32 i) : CE l X kS yL_pay wsL_pay ({ frames := 8, cells := 2, slots := 12, locals := 145 }) [.ref (D.1 0), .int (iI i)] (wC X D Z) (fun v9 w9 => ∃ t : Int × CZ, CV (n + 1) t.2 ∧ v9 = some (.int (iI t.1)) ∧ w9 = wC X D t.2) 2 12 := by
  refine lo_enterW (cc := cL_pay) (maxL := 3) (ret := some .int) (hh := [(0, 5, 6, 33), (0, 5, 11, 27)]) (lv := [(0, .ref (D.1 0)), (1, .int (iI i))]) (by decide) rfl rfl (Nat.le_of_ble_eq_true rfl) ?_
  intro p9 e9 s9 m9 bl9 me9 c9 A9 ls hA E hr hlocks hK hl hw hV hT
  have Ex := E.1
  have Eb := E.2.1
  refine lv_aload_n Ex Eb dL_pay_0 rfl (lv_at hl 0 rfl) ?_
  refine lv_iload_n Ex Eb dL_pay_1 rfl (lv_at hl 1 rfl) ?_
  refine lo_callVT (q0 := 0) (rest := []) E hK hw hV (qX7_pay l X kS hst D Z n hC i hi9) (cwV 1 E.2.2.2.2 gL_pay_X7_pay rfl rfl rfl (by decide +kernel) ⟨Nat.le_of_ble_eq_true rfl, Nat.le_of_ble_eq_true rfl⟩) wC_0 rfl (List.range' 0 145) (lw_ps wC_n) lw_nd hl.1 rfl rfl (Nat.le_of_ble_eq_true rfl) dL_pay_2 ⟨Nat.le_of_ble_eq_true rfl, Nat.le_of_ble_eq_true rfl⟩ (fun E9 ce9 q9 w1 H locs hq hw hx1 hx2 hx3 => ?_) (fun v w1 H locs hq hw => ?_)
  · obtain ⟨hE, rfl⟩ := hq
    have hw : lo_Wd X (wC X D Z) A9 s9.heap H locs := lo_cast (lw_sets wC_n wC_n) hw
    rcases hE with rfl | rfl
    · refine lo_catch (name := "java/lang/IndexOutOfBoundsException") E [] (exE (0, 5, 6, 33)) [exE (0, 5, 11, 27)] (hT.trans rfl) (pass0 ) rfl (by decide) (E.2.2.2.2 _ (List.mem_of_getElem? (i := 1) rfl)) (hV.2.2.2.2.2.2.2 _ (List.mem_of_getElem? (i := 5) rfl)) hx1 hx2 hx3 ?_
      refine W.eq (g2 := F0 m9 6 ls [.ref q9]) rfl ?_
      refine lv_astore_n (lv' := [(2, .ref q9), (0, .ref (D.1 0)), (1, .int (iI i))]) Ex Eb dL_pay_6 rfl hl (by decide) rfl (fun ls hl => ?_)
      refine lv_sipush (v := iI (-7777)) Ex Eb dL_pay_7 rfl ?_
      exact lo_iret E hr hlocks hK hA hw dL_pay_10 wC_f ⟨(-7777, Z), hC.mono (by omega), rfl, rfl⟩
    · refine lo_catch (name := "java/lang/IllegalStateException") E [exE (0, 5, 6, 33)] (exE (0, 5, 11, 27)) [] (hT.trans rfl) (pass1 (Or.inr ⟨by decide, "java/lang/IndexOutOfBoundsException", E.2.2.2.2 _ (List.mem_of_getElem? (i := 1) rfl), hV.1.2.1⟩)) rfl (by decide) (E.2.2.2.2 _ (List.mem_of_getElem? (i := 2) rfl)) (hV.2.2.2.2.2.2.2 _ (List.mem_of_getElem? (i := 4) rfl)) hx1 hx2 hx3 ?_
      refine W.eq (g2 := F0 m9 11 ls [.ref q9]) rfl ?_
      refine lv_astore_n (lv' := [(2, .ref q9), (0, .ref (D.1 0)), (1, .int (iI i))]) Ex Eb dL_pay_11 rfl hl (by decide) rfl (fun ls hl => ?_)
      refine lv_sipush (v := iI (-7777)) Ex Eb dL_pay_12 rfl ?_
      exact lo_iret E hr hlocks hK hA hw dL_pay_15 wC_f ⟨(-7777, Z), hC.mono (by omega), rfl, rfl⟩
  · obtain ⟨t, hF, rfl, rfl⟩ := hq
    have hw : lo_Wd X (wC X D t.2) A9 s9.heap H locs := lo_cast (lw_sets wC_n wC_n) hw
    refine W.eq (g2 := F0 m9 5 ls [.int (iI t.1)]) rfl ?_
    exact lo_iret E hr hlocks hK hA hw dL_pay_5 wC_f ⟨t, hF, rfl, rfl⟩
set_option maxHeartbeats 1000000 in
set_option maxRecDepth 100000 in
theorem kL_payExtra (l : Launch) (X : KX) (kS : Nat → Nat) (hst : l.stackTraces = false) (D : AD9) (Z : CZ) (n : Int) (hC : CV n Z) (i k y : Int) (hi9 : i32 i) (hk9 : i32 k) (hy : y = 0 ∨ y = 1) : CE l X kS yL_payExtra wsL_payExtra ({ frames := 8, cells := 3, slots := 18, locals := 148 }) [.ref (D.1 0), .int (iI i), .int (iI k), .int (iI y)] (wC X D Z) (fun v9 w9 => ∃ t : Int × CZ, CV (n + 1) t.2 ∧ v9 = some (.int (iI t.1)) ∧ w9 = wC X D t.2) 3 18 := by
  refine lo_enterW (cc := cL_payExtra) (maxL := 5) (ret := some .int) (hh := [(0, 7, 8, 33), (0, 7, 14, 25), (0, 7, 20, 27)]) (lv := [(0, .ref (D.1 0)), (1, .int (iI i)), (2, .int (iI k)), (3, .int (iI y))]) (by decide) rfl rfl (Nat.le_of_ble_eq_true rfl) ?_
  intro p9 e9 s9 m9 bl9 me9 c9 A9 ls hA E hr hlocks hK hl hw hV hT
  have Ex := E.1
  have Eb := E.2.1
  refine lv_aload_n Ex Eb dL_payExtra_0 rfl (lv_at hl 0 rfl) ?_
  refine lv_iload_n Ex Eb dL_payExtra_1 rfl (lv_at hl 1 rfl) ?_
  refine lv_iload_n Ex Eb dL_payExtra_2 rfl (lv_at hl 2 rfl) ?_
  refine lv_iload_n Ex Eb dL_payExtra_3 rfl (lv_at hl 3 rfl) ?_
  refine lo_callVT (q0 := 0) (rest := []) E hK hw hV (qX7_payExtra l X kS hst D Z n hC i k y hi9 hk9 hy) (cwV 3 E.2.2.2.2 gL_payExtra_X7_payExtra rfl rfl rfl (by decide +kernel) ⟨Nat.le_of_ble_eq_true rfl, Nat.le_of_ble_eq_true rfl⟩) wC_0 rfl (List.range' 0 145) (lw_ps wC_n) lw_nd hl.1 rfl rfl (Nat.le_of_ble_eq_true rfl) dL_payExtra_4 ⟨Nat.le_of_ble_eq_true rfl, Nat.le_of_ble_eq_true rfl⟩ (fun E9 ce9 q9 w1 H locs hq hw hx1 hx2 hx3 => ?_) (fun v w1 H locs hq hw => ?_)
  · obtain ⟨hE, rfl⟩ := hq
    have hw : lo_Wd X (wC X D Z) A9 s9.heap H locs := lo_cast (lw_sets wC_n wC_n) hw
    rcases hE with rfl | rfl | rfl
    · refine lo_catch (name := "java/lang/IndexOutOfBoundsException") E [] (exE (0, 7, 8, 33)) [exE (0, 7, 14, 25), exE (0, 7, 20, 27)] (hT.trans rfl) (pass0 ) rfl (by decide) (E.2.2.2.2 _ (List.mem_of_getElem? (i := 1) rfl)) (hV.2.2.2.2.2.2.2 _ (List.mem_of_getElem? (i := 5) rfl)) hx1 hx2 hx3 ?_
      refine W.eq (g2 := F0 m9 8 ls [.ref q9]) rfl ?_
      refine lv_astore (lv' := [(4, .ref q9), (0, .ref (D.1 0)), (1, .int (iI i)), (2, .int (iI k)), (3, .int (iI y))]) Ex Eb dL_payExtra_8 hl (by decide) rfl (fun ls hl => ?_)
      refine lv_sipush (v := iI (-7777)) Ex Eb dL_payExtra_10 rfl ?_
      exact lo_iret E hr hlocks hK hA hw dL_payExtra_13 wC_f ⟨(-7777, Z), hC.mono (by omega), rfl, rfl⟩
    · refine lo_catch (name := "java/lang/IllegalArgumentException") E [exE (0, 7, 8, 33)] (exE (0, 7, 14, 25)) [exE (0, 7, 20, 27)] (hT.trans rfl) (pass1 (Or.inr ⟨by decide, "java/lang/IndexOutOfBoundsException", E.2.2.2.2 _ (List.mem_of_getElem? (i := 1) rfl), hV.1.2.2.2⟩)) rfl (by decide) (E.2.2.2.2 _ (List.mem_of_getElem? (i := 2) rfl)) (hV.2.2.2.2.2.2.2 _ (List.mem_of_getElem? (i := 3) rfl)) hx1 hx2 hx3 ?_
      refine W.eq (g2 := F0 m9 14 ls [.ref q9]) rfl ?_
      refine lv_astore (lv' := [(4, .ref q9), (0, .ref (D.1 0)), (1, .int (iI i)), (2, .int (iI k)), (3, .int (iI y))]) Ex Eb dL_payExtra_14 hl (by decide) rfl (fun ls hl => ?_)
      refine lv_sipush (v := iI (-7777)) Ex Eb dL_payExtra_16 rfl ?_
      exact lo_iret E hr hlocks hK hA hw dL_payExtra_19 wC_f ⟨(-7777, Z), hC.mono (by omega), rfl, rfl⟩
    · refine lo_catch (name := "java/lang/IllegalStateException") E [exE (0, 7, 8, 33), exE (0, 7, 14, 25)] (exE (0, 7, 20, 27)) [] (hT.trans rfl) (pass2 (Or.inr ⟨by decide, "java/lang/IndexOutOfBoundsException", E.2.2.2.2 _ (List.mem_of_getElem? (i := 1) rfl), hV.1.2.1⟩) (Or.inr ⟨by decide, "java/lang/IllegalArgumentException", E.2.2.2.2 _ (List.mem_of_getElem? (i := 2) rfl), hV.1.2.2.1⟩)) rfl (by decide) (E.2.2.2.2 _ (List.mem_of_getElem? (i := 3) rfl)) (hV.2.2.2.2.2.2.2 _ (List.mem_of_getElem? (i := 4) rfl)) hx1 hx2 hx3 ?_
      refine W.eq (g2 := F0 m9 20 ls [.ref q9]) rfl ?_
      refine lv_astore (lv' := [(4, .ref q9), (0, .ref (D.1 0)), (1, .int (iI i)), (2, .int (iI k)), (3, .int (iI y))]) Ex Eb dL_payExtra_20 hl (by decide) rfl (fun ls hl => ?_)
      refine lv_sipush (v := iI (-7777)) Ex Eb dL_payExtra_22 rfl ?_
      exact lo_iret E hr hlocks hK hA hw dL_payExtra_25 wC_f ⟨(-7777, Z), hC.mono (by omega), rfl, rfl⟩
  · obtain ⟨t, hF, rfl, rfl⟩ := hq
    have hw : lo_Wd X (wC X D t.2) A9 s9.heap H locs := lo_cast (lw_sets wC_n wC_n) hw
    refine W.eq (g2 := F0 m9 7 ls [.int (iI t.1)]) rfl ?_
    exact lo_iret E hr hlocks hK hA hw dL_payExtra_7 wC_f ⟨t, hF, rfl, rfl⟩
set_option maxHeartbeats 1000000 in
set_option maxRecDepth 100000 in
theorem kL_skipMonth (l : Launch) (X : KX) (kS : Nat → Nat) (hst : l.stackTraces = false) (D : AD9) (Z : CZ) (n : Int) (hC : CV n Z) (i : Int) (hi9 : i32 i) : CE l X kS yL_skipMonth wsL_skipMonth ({ frames := 8, cells := 2, slots := 12, locals := 146 }) [.ref (D.1 0), .int (iI i)] (wC X D Z) (fun v9 w9 => ∃ t : Int × CZ, CV (n + 1) t.2 ∧ v9 = some (.int (iI t.1)) ∧ w9 = wC X D t.2) 2 12 := by
  refine lo_enterW (cc := cL_skipMonth) (maxL := 3) (ret := some .int) (hh := [(0, 5, 6, 33), (0, 5, 11, 27)]) (lv := [(0, .ref (D.1 0)), (1, .int (iI i))]) (by decide) rfl rfl (Nat.le_of_ble_eq_true rfl) ?_
  intro p9 e9 s9 m9 bl9 me9 c9 A9 ls hA E hr hlocks hK hl hw hV hT
  have Ex := E.1
  have Eb := E.2.1
  refine lv_aload_n Ex Eb dL_skipMonth_0 rfl (lv_at hl 0 rfl) ?_
  refine lv_iload_n Ex Eb dL_skipMonth_1 rfl (lv_at hl 1 rfl) ?_
  refine lo_callVT (q0 := 0) (rest := []) E hK hw hV (qX7_skipMonth l X kS hst D Z n hC i hi9) (cwV 1 E.2.2.2.2 gL_skipMonth_X7_skipMonth rfl rfl rfl (by decide +kernel) ⟨Nat.le_of_ble_eq_true rfl, Nat.le_of_ble_eq_true rfl⟩) wC_0 rfl (List.range' 0 145) (lw_ps wC_n) lw_nd hl.1 rfl rfl (Nat.le_of_ble_eq_true rfl) dL_skipMonth_2 ⟨Nat.le_of_ble_eq_true rfl, Nat.le_of_ble_eq_true rfl⟩ (fun E9 ce9 q9 w1 H locs hq hw hx1 hx2 hx3 => ?_) (fun v w1 H locs hq hw => ?_)
  · obtain ⟨hE, rfl⟩ := hq
    have hw : lo_Wd X (wC X D Z) A9 s9.heap H locs := lo_cast (lw_sets wC_n wC_n) hw
    rcases hE with rfl | rfl
    · refine lo_catch (name := "java/lang/IndexOutOfBoundsException") E [] (exE (0, 5, 6, 33)) [exE (0, 5, 11, 27)] (hT.trans rfl) (pass0 ) rfl (by decide) (E.2.2.2.2 _ (List.mem_of_getElem? (i := 1) rfl)) (hV.2.2.2.2.2.2.2 _ (List.mem_of_getElem? (i := 5) rfl)) hx1 hx2 hx3 ?_
      refine W.eq (g2 := F0 m9 6 ls [.ref q9]) rfl ?_
      refine lv_astore_n (lv' := [(2, .ref q9), (0, .ref (D.1 0)), (1, .int (iI i))]) Ex Eb dL_skipMonth_6 rfl hl (by decide) rfl (fun ls hl => ?_)
      refine lv_sipush (v := iI (-7777)) Ex Eb dL_skipMonth_7 rfl ?_
      exact lo_iret E hr hlocks hK hA hw dL_skipMonth_10 wC_f ⟨(-7777, Z), hC.mono (by omega), rfl, rfl⟩
    · refine lo_catch (name := "java/lang/IllegalStateException") E [exE (0, 5, 6, 33)] (exE (0, 5, 11, 27)) [] (hT.trans rfl) (pass1 (Or.inr ⟨by decide, "java/lang/IndexOutOfBoundsException", E.2.2.2.2 _ (List.mem_of_getElem? (i := 1) rfl), hV.1.2.1⟩)) rfl (by decide) (E.2.2.2.2 _ (List.mem_of_getElem? (i := 2) rfl)) (hV.2.2.2.2.2.2.2 _ (List.mem_of_getElem? (i := 4) rfl)) hx1 hx2 hx3 ?_
      refine W.eq (g2 := F0 m9 11 ls [.ref q9]) rfl ?_
      refine lv_astore_n (lv' := [(2, .ref q9), (0, .ref (D.1 0)), (1, .int (iI i))]) Ex Eb dL_skipMonth_11 rfl hl (by decide) rfl (fun ls hl => ?_)
      refine lv_sipush (v := iI (-7777)) Ex Eb dL_skipMonth_12 rfl ?_
      exact lo_iret E hr hlocks hK hA hw dL_skipMonth_15 wC_f ⟨(-7777, Z), hC.mono (by omega), rfl, rfl⟩
  · obtain ⟨t, hF, rfl, rfl⟩ := hq
    have hw : lo_Wd X (wC X D t.2) A9 s9.heap H locs := lo_cast (lw_sets wC_n wC_n) hw
    refine W.eq (g2 := F0 m9 5 ls [.int (iI t.1)]) rfl ?_
    exact lo_iret E hr hlocks hK hA hw dL_skipMonth_5 wC_f ⟨t, hF, rfl, rfl⟩
set_option maxHeartbeats 1000000 in
set_option maxRecDepth 100000 in
theorem kL_changeRate (l : Launch) (X : KX) (kS : Nat → Nat) (hst : l.stackTraces = false) (D : AD9) (Z : CZ) (n : Int) (hC : CV n Z) (i k : Int) (hi9 : i32 i) (hk9 : i32 k) : CE l X kS yL_changeRate wsL_changeRate ({ frames := 8, cells := 3, slots := 18, locals := 147 }) [.ref (D.1 0), .int (iI i), .int (iI k)] (wC X D Z) (fun v9 w9 => ∃ t : Int × CZ, CV (n + 1) t.2 ∧ v9 = some (.int (iI t.1)) ∧ w9 = wC X D t.2) 3 18 := by
  refine lo_enterW (cc := cL_changeRate) (maxL := 4) (ret := some .int) (hh := [(0, 6, 7, 33), (0, 6, 12, 25), (0, 6, 17, 27)]) (lv := [(0, .ref (D.1 0)), (1, .int (iI i)), (2, .int (iI k))]) (by decide) rfl rfl (Nat.le_of_ble_eq_true rfl) ?_
  intro p9 e9 s9 m9 bl9 me9 c9 A9 ls hA E hr hlocks hK hl hw hV hT
  have Ex := E.1
  have Eb := E.2.1
  refine lv_aload_n Ex Eb dL_changeRate_0 rfl (lv_at hl 0 rfl) ?_
  refine lv_iload_n Ex Eb dL_changeRate_1 rfl (lv_at hl 1 rfl) ?_
  refine lv_iload_n Ex Eb dL_changeRate_2 rfl (lv_at hl 2 rfl) ?_
  refine lo_callVT (q0 := 0) (rest := []) E hK hw hV (qX7_changeRate l X kS hst D Z n hC i k hi9 hk9) (cwV 2 E.2.2.2.2 gL_changeRate_X7_changeRate rfl rfl rfl (by decide +kernel) ⟨Nat.le_of_ble_eq_true rfl, Nat.le_of_ble_eq_true rfl⟩) wC_0 rfl (List.range' 0 145) (lw_ps wC_n) lw_nd hl.1 rfl rfl (Nat.le_of_ble_eq_true rfl) dL_changeRate_3 ⟨Nat.le_of_ble_eq_true rfl, Nat.le_of_ble_eq_true rfl⟩ (fun E9 ce9 q9 w1 H locs hq hw hx1 hx2 hx3 => ?_) (fun v w1 H locs hq hw => ?_)
  · obtain ⟨hE, rfl⟩ := hq
    have hw : lo_Wd X (wC X D Z) A9 s9.heap H locs := lo_cast (lw_sets wC_n wC_n) hw
    rcases hE with rfl | rfl | rfl
    · refine lo_catch (name := "java/lang/IndexOutOfBoundsException") E [] (exE (0, 6, 7, 33)) [exE (0, 6, 12, 25), exE (0, 6, 17, 27)] (hT.trans rfl) (pass0 ) rfl (by decide) (E.2.2.2.2 _ (List.mem_of_getElem? (i := 1) rfl)) (hV.2.2.2.2.2.2.2 _ (List.mem_of_getElem? (i := 5) rfl)) hx1 hx2 hx3 ?_
      refine W.eq (g2 := F0 m9 7 ls [.ref q9]) rfl ?_
      refine lv_astore_n (lv' := [(3, .ref q9), (0, .ref (D.1 0)), (1, .int (iI i)), (2, .int (iI k))]) Ex Eb dL_changeRate_7 rfl hl (by decide) rfl (fun ls hl => ?_)
      refine lv_sipush (v := iI (-7777)) Ex Eb dL_changeRate_8 rfl ?_
      exact lo_iret E hr hlocks hK hA hw dL_changeRate_11 wC_f ⟨(-7777, Z), hC.mono (by omega), rfl, rfl⟩
    · refine lo_catch (name := "java/lang/IllegalArgumentException") E [exE (0, 6, 7, 33)] (exE (0, 6, 12, 25)) [exE (0, 6, 17, 27)] (hT.trans rfl) (pass1 (Or.inr ⟨by decide, "java/lang/IndexOutOfBoundsException", E.2.2.2.2 _ (List.mem_of_getElem? (i := 1) rfl), hV.1.2.2.2⟩)) rfl (by decide) (E.2.2.2.2 _ (List.mem_of_getElem? (i := 2) rfl)) (hV.2.2.2.2.2.2.2 _ (List.mem_of_getElem? (i := 3) rfl)) hx1 hx2 hx3 ?_
      refine W.eq (g2 := F0 m9 12 ls [.ref q9]) rfl ?_
      refine lv_astore_n (lv' := [(3, .ref q9), (0, .ref (D.1 0)), (1, .int (iI i)), (2, .int (iI k))]) Ex Eb dL_changeRate_12 rfl hl (by decide) rfl (fun ls hl => ?_)
      refine lv_sipush (v := iI (-7777)) Ex Eb dL_changeRate_13 rfl ?_
      exact lo_iret E hr hlocks hK hA hw dL_changeRate_16 wC_f ⟨(-7777, Z), hC.mono (by omega), rfl, rfl⟩
    · refine lo_catch (name := "java/lang/IllegalStateException") E [exE (0, 6, 7, 33), exE (0, 6, 12, 25)] (exE (0, 6, 17, 27)) [] (hT.trans rfl) (pass2 (Or.inr ⟨by decide, "java/lang/IndexOutOfBoundsException", E.2.2.2.2 _ (List.mem_of_getElem? (i := 1) rfl), hV.1.2.1⟩) (Or.inr ⟨by decide, "java/lang/IllegalArgumentException", E.2.2.2.2 _ (List.mem_of_getElem? (i := 2) rfl), hV.1.2.2.1⟩)) rfl (by decide) (E.2.2.2.2 _ (List.mem_of_getElem? (i := 3) rfl)) (hV.2.2.2.2.2.2.2 _ (List.mem_of_getElem? (i := 4) rfl)) hx1 hx2 hx3 ?_
      refine W.eq (g2 := F0 m9 17 ls [.ref q9]) rfl ?_
      refine lv_astore_n (lv' := [(3, .ref q9), (0, .ref (D.1 0)), (1, .int (iI i)), (2, .int (iI k))]) Ex Eb dL_changeRate_17 rfl hl (by decide) rfl (fun ls hl => ?_)
      refine lv_sipush (v := iI (-7777)) Ex Eb dL_changeRate_18 rfl ?_
      exact lo_iret E hr hlocks hK hA hw dL_changeRate_21 wC_f ⟨(-7777, Z), hC.mono (by omega), rfl, rfl⟩
  · obtain ⟨t, hF, rfl, rfl⟩ := hq
    have hw : lo_Wd X (wC X D t.2) A9 s9.heap H locs := lo_cast (lw_sets wC_n wC_n) hw
    refine W.eq (g2 := F0 m9 6 ls [.int (iI t.1)]) rfl ?_
    exact lo_iret E hr hlocks hK hA hw dL_changeRate_6 wC_f ⟨t, hF, rfl, rfl⟩
set_option maxHeartbeats 1000000 in
set_option maxRecDepth 100000 in
theorem kL_extendTerm (l : Launch) (X : KX) (kS : Nat → Nat) (hst : l.stackTraces = false) (D : AD9) (Z : CZ) (n : Int) (hC : CV n Z) (i k : Int) (hi9 : i32 i) (hk9 : i32 k) : CE l X kS yL_extendTerm wsL_extendTerm ({ frames := 8, cells := 3, slots := 18, locals := 147 }) [.ref (D.1 0), .int (iI i), .int (iI k)] (wC X D Z) (fun v9 w9 => ∃ t : Int × CZ, CV (n + 1) t.2 ∧ v9 = some (.int (iI t.1)) ∧ w9 = wC X D t.2) 3 18 := by
  refine lo_enterW (cc := cL_extendTerm) (maxL := 4) (ret := some .int) (hh := [(0, 6, 7, 33), (0, 6, 12, 25), (0, 6, 17, 27)]) (lv := [(0, .ref (D.1 0)), (1, .int (iI i)), (2, .int (iI k))]) (by decide) rfl rfl (Nat.le_of_ble_eq_true rfl) ?_
  intro p9 e9 s9 m9 bl9 me9 c9 A9 ls hA E hr hlocks hK hl hw hV hT
  have Ex := E.1
  have Eb := E.2.1
  refine lv_aload_n Ex Eb dL_extendTerm_0 rfl (lv_at hl 0 rfl) ?_
  refine lv_iload_n Ex Eb dL_extendTerm_1 rfl (lv_at hl 1 rfl) ?_
  refine lv_iload_n Ex Eb dL_extendTerm_2 rfl (lv_at hl 2 rfl) ?_
  refine lo_callVT (q0 := 0) (rest := []) E hK hw hV (qX7_extendTerm l X kS hst D Z n hC i k hi9 hk9) (cwV 2 E.2.2.2.2 gL_extendTerm_X7_extendTerm rfl rfl rfl (by decide +kernel) ⟨Nat.le_of_ble_eq_true rfl, Nat.le_of_ble_eq_true rfl⟩) wC_0 rfl (List.range' 0 145) (lw_ps wC_n) lw_nd hl.1 rfl rfl (Nat.le_of_ble_eq_true rfl) dL_extendTerm_3 ⟨Nat.le_of_ble_eq_true rfl, Nat.le_of_ble_eq_true rfl⟩ (fun E9 ce9 q9 w1 H locs hq hw hx1 hx2 hx3 => ?_) (fun v w1 H locs hq hw => ?_)
  · obtain ⟨hE, rfl⟩ := hq
    have hw : lo_Wd X (wC X D Z) A9 s9.heap H locs := lo_cast (lw_sets wC_n wC_n) hw
    rcases hE with rfl | rfl | rfl
    · refine lo_catch (name := "java/lang/IndexOutOfBoundsException") E [] (exE (0, 6, 7, 33)) [exE (0, 6, 12, 25), exE (0, 6, 17, 27)] (hT.trans rfl) (pass0 ) rfl (by decide) (E.2.2.2.2 _ (List.mem_of_getElem? (i := 1) rfl)) (hV.2.2.2.2.2.2.2 _ (List.mem_of_getElem? (i := 5) rfl)) hx1 hx2 hx3 ?_
      refine W.eq (g2 := F0 m9 7 ls [.ref q9]) rfl ?_
      refine lv_astore_n (lv' := [(3, .ref q9), (0, .ref (D.1 0)), (1, .int (iI i)), (2, .int (iI k))]) Ex Eb dL_extendTerm_7 rfl hl (by decide) rfl (fun ls hl => ?_)
      refine lv_sipush (v := iI (-7777)) Ex Eb dL_extendTerm_8 rfl ?_
      exact lo_iret E hr hlocks hK hA hw dL_extendTerm_11 wC_f ⟨(-7777, Z), hC.mono (by omega), rfl, rfl⟩
    · refine lo_catch (name := "java/lang/IllegalArgumentException") E [exE (0, 6, 7, 33)] (exE (0, 6, 12, 25)) [exE (0, 6, 17, 27)] (hT.trans rfl) (pass1 (Or.inr ⟨by decide, "java/lang/IndexOutOfBoundsException", E.2.2.2.2 _ (List.mem_of_getElem? (i := 1) rfl), hV.1.2.2.2⟩)) rfl (by decide) (E.2.2.2.2 _ (List.mem_of_getElem? (i := 2) rfl)) (hV.2.2.2.2.2.2.2 _ (List.mem_of_getElem? (i := 3) rfl)) hx1 hx2 hx3 ?_
      refine W.eq (g2 := F0 m9 12 ls [.ref q9]) rfl ?_
      refine lv_astore_n (lv' := [(3, .ref q9), (0, .ref (D.1 0)), (1, .int (iI i)), (2, .int (iI k))]) Ex Eb dL_extendTerm_12 rfl hl (by decide) rfl (fun ls hl => ?_)
      refine lv_sipush (v := iI (-7777)) Ex Eb dL_extendTerm_13 rfl ?_
      exact lo_iret E hr hlocks hK hA hw dL_extendTerm_16 wC_f ⟨(-7777, Z), hC.mono (by omega), rfl, rfl⟩
    · refine lo_catch (name := "java/lang/IllegalStateException") E [exE (0, 6, 7, 33), exE (0, 6, 12, 25)] (exE (0, 6, 17, 27)) [] (hT.trans rfl) (pass2 (Or.inr ⟨by decide, "java/lang/IndexOutOfBoundsException", E.2.2.2.2 _ (List.mem_of_getElem? (i := 1) rfl), hV.1.2.1⟩) (Or.inr ⟨by decide, "java/lang/IllegalArgumentException", E.2.2.2.2 _ (List.mem_of_getElem? (i := 2) rfl), hV.1.2.2.1⟩)) rfl (by decide) (E.2.2.2.2 _ (List.mem_of_getElem? (i := 3) rfl)) (hV.2.2.2.2.2.2.2 _ (List.mem_of_getElem? (i := 4) rfl)) hx1 hx2 hx3 ?_
      refine W.eq (g2 := F0 m9 17 ls [.ref q9]) rfl ?_
      refine lv_astore_n (lv' := [(3, .ref q9), (0, .ref (D.1 0)), (1, .int (iI i)), (2, .int (iI k))]) Ex Eb dL_extendTerm_17 rfl hl (by decide) rfl (fun ls hl => ?_)
      refine lv_sipush (v := iI (-7777)) Ex Eb dL_extendTerm_18 rfl ?_
      exact lo_iret E hr hlocks hK hA hw dL_extendTerm_21 wC_f ⟨(-7777, Z), hC.mono (by omega), rfl, rfl⟩
  · obtain ⟨t, hF, rfl, rfl⟩ := hq
    have hw : lo_Wd X (wC X D t.2) A9 s9.heap H locs := lo_cast (lw_sets wC_n wC_n) hw
    refine W.eq (g2 := F0 m9 6 ls [.int (iI t.1)]) rfl ?_
    exact lo_iret E hr hlocks hK hA hw dL_extendTerm_6 wC_f ⟨t, hF, rfl, rfl⟩
set_option maxHeartbeats 1000000 in
set_option maxRecDepth 100000 in
theorem kL_refinance (l : Launch) (X : KX) (kS : Nat → Nat) (hst : l.stackTraces = false) (D : AD9) (Z : CZ) (n : Int) (hC : CV n Z) (i k m : Int) (hi9 : i32 i) (hk9 : i32 k) (hm99 : i32 m) : CE l X kS yL_refinance wsL_refinance ({ frames := 8, cells := 4, slots := 24, locals := 148 }) [.ref (D.1 0), .int (iI i), .int (iI k), .int (iI m)] (wC X D Z) (fun v9 w9 => ∃ t : Int × CZ, CV (n + 1) t.2 ∧ v9 = some (.int (iI t.1)) ∧ w9 = wC X D t.2) 4 24 := by
  refine lo_enterW (cc := cL_refinance) (maxL := 5) (ret := some .int) (hh := [(0, 7, 8, 33), (0, 7, 14, 25), (0, 7, 20, 27)]) (lv := [(0, .ref (D.1 0)), (1, .int (iI i)), (2, .int (iI k)), (3, .int (iI m))]) (by decide) rfl rfl (Nat.le_of_ble_eq_true rfl) ?_
  intro p9 e9 s9 m9 bl9 me9 c9 A9 ls hA E hr hlocks hK hl hw hV hT
  have Ex := E.1
  have Eb := E.2.1
  refine lv_aload_n Ex Eb dL_refinance_0 rfl (lv_at hl 0 rfl) ?_
  refine lv_iload_n Ex Eb dL_refinance_1 rfl (lv_at hl 1 rfl) ?_
  refine lv_iload_n Ex Eb dL_refinance_2 rfl (lv_at hl 2 rfl) ?_
  refine lv_iload_n Ex Eb dL_refinance_3 rfl (lv_at hl 3 rfl) ?_
  refine lo_callVT (q0 := 0) (rest := []) E hK hw hV (qX7_refinance l X kS hst D Z n hC i k m hi9 hk9 hm99) (cwV 3 E.2.2.2.2 gL_refinance_X7_refinance rfl rfl rfl (by decide +kernel) ⟨Nat.le_of_ble_eq_true rfl, Nat.le_of_ble_eq_true rfl⟩) wC_0 rfl (List.range' 0 145) (lw_ps wC_n) lw_nd hl.1 rfl rfl (Nat.le_of_ble_eq_true rfl) dL_refinance_4 ⟨Nat.le_of_ble_eq_true rfl, Nat.le_of_ble_eq_true rfl⟩ (fun E9 ce9 q9 w1 H locs hq hw hx1 hx2 hx3 => ?_) (fun v w1 H locs hq hw => ?_)
  · obtain ⟨hE, rfl⟩ := hq
    have hw : lo_Wd X (wC X D Z) A9 s9.heap H locs := lo_cast (lw_sets wC_n wC_n) hw
    rcases hE with rfl | rfl | rfl
    · refine lo_catch (name := "java/lang/IndexOutOfBoundsException") E [] (exE (0, 7, 8, 33)) [exE (0, 7, 14, 25), exE (0, 7, 20, 27)] (hT.trans rfl) (pass0 ) rfl (by decide) (E.2.2.2.2 _ (List.mem_of_getElem? (i := 1) rfl)) (hV.2.2.2.2.2.2.2 _ (List.mem_of_getElem? (i := 5) rfl)) hx1 hx2 hx3 ?_
      refine W.eq (g2 := F0 m9 8 ls [.ref q9]) rfl ?_
      refine lv_astore (lv' := [(4, .ref q9), (0, .ref (D.1 0)), (1, .int (iI i)), (2, .int (iI k)), (3, .int (iI m))]) Ex Eb dL_refinance_8 hl (by decide) rfl (fun ls hl => ?_)
      refine lv_sipush (v := iI (-7777)) Ex Eb dL_refinance_10 rfl ?_
      exact lo_iret E hr hlocks hK hA hw dL_refinance_13 wC_f ⟨(-7777, Z), hC.mono (by omega), rfl, rfl⟩
    · refine lo_catch (name := "java/lang/IllegalArgumentException") E [exE (0, 7, 8, 33)] (exE (0, 7, 14, 25)) [exE (0, 7, 20, 27)] (hT.trans rfl) (pass1 (Or.inr ⟨by decide, "java/lang/IndexOutOfBoundsException", E.2.2.2.2 _ (List.mem_of_getElem? (i := 1) rfl), hV.1.2.2.2⟩)) rfl (by decide) (E.2.2.2.2 _ (List.mem_of_getElem? (i := 2) rfl)) (hV.2.2.2.2.2.2.2 _ (List.mem_of_getElem? (i := 3) rfl)) hx1 hx2 hx3 ?_
      refine W.eq (g2 := F0 m9 14 ls [.ref q9]) rfl ?_
      refine lv_astore (lv' := [(4, .ref q9), (0, .ref (D.1 0)), (1, .int (iI i)), (2, .int (iI k)), (3, .int (iI m))]) Ex Eb dL_refinance_14 hl (by decide) rfl (fun ls hl => ?_)
      refine lv_sipush (v := iI (-7777)) Ex Eb dL_refinance_16 rfl ?_
      exact lo_iret E hr hlocks hK hA hw dL_refinance_19 wC_f ⟨(-7777, Z), hC.mono (by omega), rfl, rfl⟩
    · refine lo_catch (name := "java/lang/IllegalStateException") E [exE (0, 7, 8, 33), exE (0, 7, 14, 25)] (exE (0, 7, 20, 27)) [] (hT.trans rfl) (pass2 (Or.inr ⟨by decide, "java/lang/IndexOutOfBoundsException", E.2.2.2.2 _ (List.mem_of_getElem? (i := 1) rfl), hV.1.2.1⟩) (Or.inr ⟨by decide, "java/lang/IllegalArgumentException", E.2.2.2.2 _ (List.mem_of_getElem? (i := 2) rfl), hV.1.2.2.1⟩)) rfl (by decide) (E.2.2.2.2 _ (List.mem_of_getElem? (i := 3) rfl)) (hV.2.2.2.2.2.2.2 _ (List.mem_of_getElem? (i := 4) rfl)) hx1 hx2 hx3 ?_
      refine W.eq (g2 := F0 m9 20 ls [.ref q9]) rfl ?_
      refine lv_astore (lv' := [(4, .ref q9), (0, .ref (D.1 0)), (1, .int (iI i)), (2, .int (iI k)), (3, .int (iI m))]) Ex Eb dL_refinance_20 hl (by decide) rfl (fun ls hl => ?_)
      refine lv_sipush (v := iI (-7777)) Ex Eb dL_refinance_22 rfl ?_
      exact lo_iret E hr hlocks hK hA hw dL_refinance_25 wC_f ⟨(-7777, Z), hC.mono (by omega), rfl, rfl⟩
  · obtain ⟨t, hF, rfl, rfl⟩ := hq
    have hw : lo_Wd X (wC X D t.2) A9 s9.heap H locs := lo_cast (lw_sets wC_n wC_n) hw
    refine W.eq (g2 := F0 m9 7 ls [.int (iI t.1)]) rfl ?_
    exact lo_iret E hr hlocks hK hA hw dL_refinance_7 wC_f ⟨t, hF, rfl, rfl⟩
set_option maxHeartbeats 1000000 in
set_option maxRecDepth 100000 in
theorem kL_spendExtra (l : Launch) (X : KX) (kS : Nat → Nat) (hst : l.stackTraces = false) (D : AD9) (Z : CZ) (n : Int) (hC : CV n Z) (k : Int) (hk9 : i32 k) : CE l X kS yL_spendExtra wsL_spendExtra ({ frames := 8, cells := 1, slots := 6, locals := 153 }) [.ref (D.1 0), .int (iI k)] (wC X D Z) (fun v9 w9 => ∃ t : Int × CZ, CV (n + 1) t.2 ∧ v9 = some (.int (iI t.1)) ∧ w9 = wC X D t.2) 1 6 := by
  refine lo_enterW (cc := cL_spendExtra) (maxL := 3) (ret := some .int) (hh := [(0, 5, 6, 25)]) (lv := [(0, .ref (D.1 0)), (1, .int (iI k))]) (by decide) rfl rfl (Nat.le_of_ble_eq_true rfl) ?_
  intro p9 e9 s9 m9 bl9 me9 c9 A9 ls hA E hr hlocks hK hl hw hV hT
  have Ex := E.1
  have Eb := E.2.1
  refine lv_aload_n Ex Eb dL_spendExtra_0 rfl (lv_at hl 0 rfl) ?_
  refine lv_iload_n Ex Eb dL_spendExtra_1 rfl (lv_at hl 1 rfl) ?_
  refine lo_callVT (q0 := 0) (rest := []) E hK hw hV (qX7_spendExtra l X kS hst D Z n hC k hk9) (cwV 1 E.2.2.2.2 gL_spendExtra_X7_spendExtra rfl rfl rfl (by decide +kernel) ⟨Nat.le_of_ble_eq_true rfl, Nat.le_of_ble_eq_true rfl⟩) wC_0 rfl (List.range' 0 145) (lw_ps wC_n) lw_nd hl.1 rfl rfl (Nat.le_of_ble_eq_true rfl) dL_spendExtra_2 ⟨Nat.le_of_ble_eq_true rfl, Nat.le_of_ble_eq_true rfl⟩ (fun E9 ce9 q9 w1 H locs hq hw hx1 hx2 hx3 => ?_) (fun v w1 H locs hq hw => ?_)
  · obtain ⟨hE, rfl⟩ := hq
    have hw : lo_Wd X (wC X D Z) A9 s9.heap H locs := lo_cast (lw_sets wC_n wC_n) hw
    rcases hE with rfl
    · refine lo_catch (name := "java/lang/IllegalArgumentException") E [] (exE (0, 5, 6, 25)) [] (hT.trans rfl) (pass0 ) rfl (by decide) (E.2.2.2.2 _ (List.mem_of_getElem? (i := 1) rfl)) (hV.2.2.2.2.2.2.2 _ (List.mem_of_getElem? (i := 3) rfl)) hx1 hx2 hx3 ?_
      refine W.eq (g2 := F0 m9 6 ls [.ref q9]) rfl ?_
      refine lv_astore_n (lv' := [(2, .ref q9), (0, .ref (D.1 0)), (1, .int (iI k))]) Ex Eb dL_spendExtra_6 rfl hl (by decide) rfl (fun ls hl => ?_)
      refine lv_sipush (v := iI (-7777)) Ex Eb dL_spendExtra_7 rfl ?_
      exact lo_iret E hr hlocks hK hA hw dL_spendExtra_10 wC_f ⟨(-7777, Z), hC.mono (by omega), rfl, rfl⟩
  · obtain ⟨t, hF, rfl, rfl⟩ := hq
    have hw : lo_Wd X (wC X D t.2) A9 s9.heap H locs := lo_cast (lw_sets wC_n wC_n) hw
    refine W.eq (g2 := F0 m9 5 ls [.int (iI t.1)]) rfl ?_
    exact lo_iret E hr hlocks hK hA hw dL_spendExtra_5 wC_f ⟨t, hF, rfl, rfl⟩
