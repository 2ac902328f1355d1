def W7_truncateInput (Z : CZ) (k : Int) (kk : Int) (Z9 : CZ) (g9 : Nat → Int64) : Prop := (kk = 0 ∧ ∃ zz : Int, F7_truncateInput Z k zz Z9 ∧ g9 0 = (iI zz).toInt64) ∨ (kk = 1 ∧ T7_truncateInput Z k "java/lang/IllegalArgumentException" Z9)
theorem T7_truncateInput_E {Z Z9 : CZ} {k : Int} {E9 : String} (h : T7_truncateInput Z k E9 Z9) : E9 = "java/lang/IllegalArgumentException" := by
  obtain ⟨f0, f1, -⟩ := h
  first | exact f0 | exact f0.1
set_option maxHeartbeats 1000000 in
set_option maxRecDepth 100000 in
theorem kL_truncateInput (l : Launch) (X : KX) (cJ : ClassId) (kS : Nat → Nat) (hst : l.stackTraces = false) (ad pa pb qa qb ra rb : Nat → Nat) (ha hb : Nat → Nat → Nat) (Z : CZ) (Y : RZ) (hS : SIM Z Y) (k : Int) (hk9 : i32 k) (oa : Nat) (g : Nat → Int64) : CL l X cJ kS yL_truncateInput wsL_truncateInput ({ frames := 8, cells := 1, slots := 6, locals := 143 }) [.ref (ad 0), .int (iI k), .ref oa] ((clB X ad pa pb qa qb ra rb ha hb Z).flatten ++ [arJ cJ oa 1 g]) (fun v9 w9 => ∃ (kk : Int) (Z9 : CZ) (g9 : Nat → Int64), W7_truncateInput Z k kk Z9 g9 ∧ v9 = some (.int (iI kk)) ∧ w9 = (clB X ad pa pb qa qb ra rb ha hb Z9).flatten ++ [arJ cJ oa 1 g9]) 1 6 := by
  refine lo_enterL (cc := cL_truncateInput) (maxL := 4) (ret := some .int) (hh := [(0, 9, 12, 13)]) (lv := [(0, .ref (ad 0)), (1, .int (iI k)), (2, .ref oa)]) (by decide) rfl rfl (Nat.le_of_ble_eq_true rfl) ?_
  intro p9 e9 s9 m9 bl9 me9 c9 A9 ls hA E hr hlocks hK hl hw hV hT hJ
  have Ex := E.1
  have Eb := E.2.1
  refine lv_aload_n Ex Eb dL_truncateInput_0 rfl (lv_at hl 2 rfl) ?_
  refine lv_iconst (v := iI 0) Ex Eb dL_truncateInput_1 rfl ?_
  refine lv_aload_n Ex Eb dL_truncateInput_2 rfl (lv_at hl 0 rfl) ?_
  refine lv_iload_n Ex Eb dL_truncateInput_3 rfl (lv_at hl 1 rfl) ?_
  refine lo_callVT (q0 := 0) (rest := [.int (iI 0), .ref oa]) E hK hw hV (vX7_truncateInput l X kS hst ad pa pb qa qb ra rb ha hb Z Y hS k hk9) (cwV 1 E.2.2.2.2 gL_truncateInput_X7_truncateInput rfl rfl rfl (by decide +kernel) ⟨Nat.le_of_ble_eq_true rfl, Nat.le_of_ble_eq_true rfl⟩) rfl rfl (List.range' 0 145) (lo_ps_hd clB_n) (by decide +kernel) hl.1 rfl rfl (Nat.le_of_ble_eq_true rfl) dL_truncateInput_4 ⟨Nat.le_of_ble_eq_true rfl, Nat.le_of_ble_eq_true rfl⟩ (fun E9 ce9 q9 w1 H locs hq hw hx1 hx2 hx3 => ?_) (fun v w1 H locs hq hw => ?_)
  · obtain ⟨Z9, hT7, rfl⟩ := hq
    have hw : lo_Wd X ((clB X ad pa pb qa qb ra rb ha hb Z9).flatten ++ [arJ cJ oa 1 g]) A9 s9.heap H locs := lo_cast (lo_sets_hd clB_n clB_n) hw
    rcases T7_truncateInput_E hT7 with rfl
    · refine lo_catch (name := "java/lang/IllegalArgumentException") E [] (exE (0, 9, 12, 13)) [] (hT.trans rfl) (pass0 ) rfl (by decide) (E.2.2.2.2 _ (List.mem_of_getElem? (i := 1) rfl)) (hV.2.2.2.2.2.2.2 _ (List.mem_of_getElem? (i := 3) rfl)) hx1 hx2 hx3 ?_
      refine W.eq (g2 := F0 m9 12 ls [.ref q9]) rfl ?_
      refine lv_astore_n (lv' := [(3, .ref q9), (0, .ref (ad 0)), (1, .int (iI k)), (2, .ref oa)]) Ex Eb dL_truncateInput_12 rfl hl (by decide) rfl (fun ls hl => ?_)
      refine lv_iconst (v := iI 1) Ex Eb dL_truncateInput_13 rfl ?_
      exact lo_iret E hr hlocks hK hA hw dL_truncateInput_14 rfl ⟨1, Z9, g, Or.inr (⟨rfl, hT7⟩), rfl, rfl⟩
  · obtain ⟨zz, Z9, hF, rfl, rfl⟩ := hq
    have hw : lo_Wd X ((clB X ad pa pb qa qb ra rb ha hb Z9).flatten ++ [arJ cJ oa 1 g]) A9 s9.heap H locs := lo_cast (lo_sets_hd clB_n clB_n) hw
    refine W.eq (g2 := F0 m9 7 ls [.int (iI zz), .int (iI 0), .ref oa]) rfl ?_
    refine lv_i2l Ex Eb dL_truncateInput_7 rfl ?_
    refine lo_last E hJ hw 145 rfl dL_truncateInput_8 (fun H locs f hf hw => ?_)
    refine lv_goto Ex Eb dL_truncateInput_9 rfl ?_
    have hw : lo_Wd X ((clB X ad pa pb qa qb ra rb ha hb Z9).flatten ++ [arJ cJ oa 1 f]) A9 s9.heap H locs := hw
    refine lv_iconst (v := iI 0) Ex Eb dL_truncateInput_15 rfl ?_
    exact lo_iret E hr hlocks hK hA hw dL_truncateInput_16 rfl ⟨0, Z9, f, Or.inl ⟨rfl, zz, hF, hf⟩, rfl, rfl⟩
def W7_openLoan (Z : CZ) (k : Int) (r : Int) (m : Int) (kk : Int) (Z9 : CZ) (g9 : Nat → Int64) : Prop := (kk = 0 ∧ ∃ zz : Int, F7_openLoan Z k r m zz Z9 ∧ g9 0 = (iI zz).toInt64) ∨ (kk = 1 ∧ T7_openLoan Z k r m "java/lang/IllegalArgumentException" Z9) ∨ (kk = 2 ∧ T7_openLoan Z k r m "java/lang/IllegalStateException" Z9)
theorem T7_openLoan_E {Z Z9 : CZ} {k : Int} {r : Int} {m : Int} {E9 : String} (h : T7_openLoan Z k r m E9 Z9) : E9 = "java/lang/IllegalArgumentException" ∨ E9 = "java/lang/IllegalStateException" := by
  obtain ⟨f0, -⟩ := h
  first | exact f0.imp (fun q => q.1) (fun q => q.1)
set_option maxHeartbeats 1000000 in
set_option maxRecDepth 100000 in
theorem kL_openLoan (l : Launch) (X : KX) (cJ : ClassId) (kS : Nat → Nat) (hst : l.stackTraces = false) (ad pa pb qa qb ra rb : Nat → Nat) (ha hb : Nat → Nat → Nat) (Z : CZ) (Y : RZ) (hS : SIM Z Y) (k : Int) (r : Int) (m : Int) (hk9 : i32 k) (hr99 : i32 r) (hm99 : i32 m) (oa : Nat) (g : Nat → Int64) : CL l X cJ kS yL_openLoan wsL_openLoan ({ frames := 8, cells := 4, slots := 24, locals := 147 }) [.ref (ad 0), .int (iI k), .int (iI r), .int (iI m), .ref oa] ((clB X ad pa pb qa qb ra rb ha hb Z).flatten ++ [arJ cJ oa 1 g]) (fun v9 w9 => ∃ (kk : Int) (Z9 : CZ) (g9 : Nat → Int64), W7_openLoan Z k r m kk Z9 g9 ∧ v9 = some (.int (iI kk)) ∧ w9 = (clB X ad pa pb qa qb ra rb ha hb Z9).flatten ++ [arJ cJ oa 1 g9]) 4 24 := by
  refine lo_enterL (cc := cL_openLoan) (maxL := 6) (ret := some .int) (hh := [(0, 12, 15, 13), (0, 12, 19, 19)]) (lv := [(0, .ref (ad 0)), (1, .int (iI k)), (2, .int (iI r)), (3, .int (iI m)), (4, .ref oa)]) (by decide) rfl rfl (Nat.le_of_ble_eq_true rfl) ?_
  intro p9 e9 s9 m9 bl9 me9 c9 A9 ls hA E hr hlocks hK hl hw hV hT hJ
  have Ex := E.1
  have Eb := E.2.1
  refine lv_aload Ex Eb dL_openLoan_0 (lv_at hl 4 rfl) ?_
  refine lv_iconst (v := iI 0) Ex Eb dL_openLoan_2 rfl ?_
  refine lv_aload_n Ex Eb dL_openLoan_3 rfl (lv_at hl 0 rfl) ?_
  refine lv_iload_n Ex Eb dL_openLoan_4 rfl (lv_at hl 1 rfl) ?_
  refine lv_iload_n Ex Eb dL_openLoan_5 rfl (lv_at hl 2 rfl) ?_
  refine lv_iload_n Ex Eb dL_openLoan_6 rfl (lv_at hl 3 rfl) ?_
  refine lo_callVT (q0 := 0) (rest := [.int (iI 0), .ref oa]) E hK hw hV (vX7_openLoan l X kS hst ad pa pb qa qb ra rb ha hb Z Y hS k r m hk9 hr99 hm99) (cwV 3 E.2.2.2.2 gL_openLoan_X7_openLoan rfl rfl rfl (by decide +kernel) ⟨Nat.le_of_ble_eq_true rfl, Nat.le_of_ble_eq_true rfl⟩) rfl rfl (List.range' 0 145) (lo_ps_hd clB_n) (by decide +kernel) hl.1 rfl rfl (Nat.le_of_ble_eq_true rfl) dL_openLoan_7 ⟨Nat.le_of_ble_eq_true rfl, Nat.le_of_ble_eq_true rfl⟩ (fun E9 ce9 q9 w1 H locs hq hw hx1 hx2 hx3 => ?_) (fun v w1 H locs hq hw => ?_)
  · obtain ⟨Z9, hT7, rfl⟩ := hq
    have hw : lo_Wd X ((clB X ad pa pb qa qb ra rb ha hb Z9).flatten ++ [arJ cJ oa 1 g]) A9 s9.heap H locs := lo_cast (lo_sets_hd clB_n clB_n) hw
    rcases T7_openLoan_E hT7 with rfl | rfl
    · refine lo_catch (name := "java/lang/IllegalArgumentException") E [] (exE (0, 12, 15, 13)) [exE (0, 12, 19, 19)] (hT.trans rfl) (pass0 ) rfl (by decide) (E.2.2.2.2 _ (List.mem_of_getElem? (i := 1) rfl)) (hV.2.2.2.2.2.2.2 _ (List.mem_of_getElem? (i := 3) rfl)) hx1 hx2 hx3 ?_
      refine W.eq (g2 := F0 m9 15 ls [.ref q9]) rfl ?_
      refine lv_astore (lv' := [(5, .ref q9), (0, .ref (ad 0)), (1, .int (iI k)), (2, .int (iI r)), (3, .int (iI m)), (4, .ref oa)]) Ex Eb dL_openLoan_15 hl (by decide) rfl (fun ls hl => ?_)
      refine lv_iconst (v := iI 1) Ex Eb dL_openLoan_17 rfl ?_
      exact lo_iret E hr hlocks hK hA hw dL_openLoan_18 rfl ⟨1, Z9, g, Or.inr (Or.inl ⟨rfl, hT7⟩), rfl, rfl⟩
    · refine lo_catch (name := "java/lang/IllegalStateException") E [exE (0, 12, 15, 13)] (exE (0, 12, 19, 19)) [] (hT.trans rfl) (pass1 (Or.inr ⟨by decide, "java/lang/IllegalArgumentException", E.2.2.2.2 _ (List.mem_of_getElem? (i := 1) rfl), hJ.2.2.1⟩)) rfl (by decide) (E.2.2.2.2 _ (List.mem_of_getElem? (i := 2) rfl)) (hV.2.2.2.2.2.2.2 _ (List.mem_of_getElem? (i := 4) rfl)) hx1 hx2 hx3 ?_
      refine W.eq (g2 := F0 m9 19 ls [.ref q9]) rfl ?_
      refine lv_astore (lv' := [(5, .ref q9), (0, .ref (ad 0)), (1, .int (iI k)), (2, .int (iI r)), (3, .int (iI m)), (4, .ref oa)]) Ex Eb dL_openLoan_19 hl (by decide) rfl (fun ls hl => ?_)
      refine lv_iconst (v := iI 2) Ex Eb dL_openLoan_21 rfl ?_
      exact lo_iret E hr hlocks hK hA hw dL_openLoan_22 rfl ⟨2, Z9, g, Or.inr (Or.inr (⟨rfl, hT7⟩)), rfl, rfl⟩
  · obtain ⟨zz, Z9, hF, rfl, rfl⟩ := hq
    have hw : lo_Wd X ((clB X ad pa pb qa qb ra rb ha hb Z9).flatten ++ [arJ cJ oa 1 g]) A9 s9.heap H locs := lo_cast (lo_sets_hd clB_n clB_n) hw
    refine W.eq (g2 := F0 m9 10 ls [.int (iI zz), .int (iI 0), .ref oa]) rfl ?_
    refine lv_i2l Ex Eb dL_openLoan_10 rfl ?_
    refine lo_last E hJ hw 145 rfl dL_openLoan_11 (fun H locs f hf hw => ?_)
    refine lv_goto Ex Eb dL_openLoan_12 rfl ?_
    have hw : lo_Wd X ((clB X ad pa pb qa qb ra rb ha hb Z9).flatten ++ [arJ cJ oa 1 f]) A9 s9.heap H locs := hw
    refine lv_iconst (v := iI 0) Ex Eb dL_openLoan_23 rfl ?_
    exact lo_iret E hr hlocks hK hA hw dL_openLoan_24 rfl ⟨0, Z9, f, Or.inl ⟨rfl, zz, hF, hf⟩, rfl, rfl⟩
def W7_pay (Z : CZ) (i : Int) (kk : Int) (Z9 : CZ) (g9 : Nat → Int64) : Prop := (kk = 0 ∧ ∃ zz : Int, F7_pay Z i zz Z9 ∧ g9 0 = (iI zz).toInt64) ∨ (kk = 1 ∧ T7_pay Z i "java/lang/IndexOutOfBoundsException" Z9) ∨ (kk = 2 ∧ T7_pay Z i "java/lang/IllegalStateException" Z9)
theorem T7_pay_E {Z Z9 : CZ} {i : Int} {E9 : String} (h : T7_pay Z i E9 Z9) : E9 = "java/lang/IndexOutOfBoundsException" ∨ E9 = "java/lang/IllegalStateException" := by
  obtain ⟨f0, -⟩ := h
  first | exact f0.imp (fun q => q.1) (fun q => q.1)
set_option maxHeartbeats 1000000 in
set_option maxRecDepth 100000 in
theorem kL_pay (l : Launch) (X : KX) (cJ : ClassId) (kS : Nat → Nat) (hst : l.stackTraces = false) (ad pa pb qa qb ra rb : Nat → Nat) (ha hb : Nat → Nat → Nat) (Z : CZ) (Y : RZ) (hS : SIM Z Y) (i : Int) (hi9 : i32 i) (oa : Nat) (g : Nat → Int64) : CL l X cJ kS yL_pay wsL_pay ({ frames := 8, cells := 2, slots := 12, locals := 145 }) [.ref (ad 0), .int (iI i), .ref oa] ((clB X ad pa pb qa qb ra rb ha hb Z).flatten ++ [arJ cJ oa 1 g]) (fun v9 w9 => ∃ (kk : Int) (Z9 : CZ) (g9 : Nat → Int64), W7_pay Z i kk Z9 g9 ∧ v9 = some (.int (iI kk)) ∧ w9 = (clB X ad pa pb qa qb ra rb ha hb Z9).flatten ++ [arJ cJ oa 1 g9]) 2 12 := by
  refine lo_enterL (cc := cL_pay) (maxL := 4) (ret := some .int) (hh := [(0, 9, 12, 24), (0, 9, 15, 19)]) (lv := [(0, .ref (ad 0)), (1, .int (iI i)), (2, .ref oa)]) (by decide) rfl rfl (Nat.le_of_ble_eq_true rfl) ?_
  intro p9 e9 s9 m9 bl9 me9 c9 A9 ls hA E hr hlocks hK hl hw hV hT hJ
  have Ex := E.1
  have Eb := E.2.1
  refine lv_aload_n Ex Eb dL_pay_0 rfl (lv_at hl 2 rfl) ?_
  refine lv_iconst (v := iI 0) Ex Eb dL_pay_1 rfl ?_
  refine lv_aload_n Ex Eb dL_pay_2 rfl (lv_at hl 0 rfl) ?_
  refine lv_iload_n Ex Eb dL_pay_3 rfl (lv_at hl 1 rfl) ?_
  refine lo_callVT (q0 := 0) (rest := [.int (iI 0), .ref oa]) E hK hw hV (vX7_pay l X kS hst ad pa pb qa qb ra rb ha hb Z Y hS i hi9) (cwV 1 E.2.2.2.2 gL_pay_X7_pay rfl rfl rfl (by decide +kernel) ⟨Nat.le_of_ble_eq_true rfl, Nat.le_of_ble_eq_true rfl⟩) rfl rfl (List.range' 0 145) (lo_ps_hd clB_n) (by decide +kernel) hl.1 rfl rfl (Nat.le_of_ble_eq_true rfl) dL_pay_4 ⟨Nat.le_of_ble_eq_true rfl, Nat.le_of_ble_eq_true rfl⟩ (fun E9 ce9 q9 w1 H locs hq hw hx1 hx2 hx3 => ?_) (fun v w1 H locs hq hw => ?_)
  · obtain ⟨Z9, hT7, rfl⟩ := hq
    have hw : lo_Wd X ((clB X ad pa pb qa qb ra rb ha hb Z9).flatten ++ [arJ cJ oa 1 g]) A9 s9.heap H locs := lo_cast (lo_sets_hd clB_n clB_n) hw
    rcases T7_pay_E hT7 with rfl | rfl
    · refine lo_catch (name := "java/lang/IndexOutOfBoundsException") E [] (exE (0, 9, 12, 24)) [exE (0, 9, 15, 19)] (hT.trans rfl) (pass0 ) rfl (by decide) (E.2.2.2.2 _ (List.mem_of_getElem? (i := 1) rfl)) (hV.2.2.2.2.2.2.2 _ (List.mem_of_getElem? (i := 5) rfl)) hx1 hx2 hx3 ?_
      refine W.eq (g2 := F0 m9 12 ls [.ref q9]) rfl ?_
      refine lv_astore_n (lv' := [(3, .ref q9), (0, .ref (ad 0)), (1, .int (iI i)), (2, .ref oa)]) Ex Eb dL_pay_12 rfl hl (by decide) rfl (fun ls hl => ?_)
      refine lv_iconst (v := iI 1) Ex Eb dL_pay_13 rfl ?_
      exact lo_iret E hr hlocks hK hA hw dL_pay_14 rfl ⟨1, Z9, g, Or.inr (Or.inl ⟨rfl, hT7⟩), rfl, rfl⟩
    · refine lo_catch (name := "java/lang/IllegalStateException") E [exE (0, 9, 12, 24)] (exE (0, 9, 15, 19)) [] (hT.trans rfl) (pass1 (Or.inr ⟨by decide, "java/lang/IndexOutOfBoundsException", E.2.2.2.2 _ (List.mem_of_getElem? (i := 1) rfl), hJ.2.1⟩)) rfl (by decide) (E.2.2.2.2 _ (List.mem_of_getElem? (i := 2) rfl)) (hV.2.2.2.2.2.2.2 _ (List.mem_of_getElem? (i := 4) rfl)) hx1 hx2 hx3 ?_
      refine W.eq (g2 := F0 m9 15 ls [.ref q9]) rfl ?_
      refine lv_astore_n (lv' := [(3, .ref q9), (0, .ref (ad 0)), (1, .int (iI i)), (2, .ref oa)]) Ex Eb dL_pay_15 rfl hl (by decide) rfl (fun ls hl => ?_)
      refine lv_iconst (v := iI 2) Ex Eb dL_pay_16 rfl ?_
      exact lo_iret E hr hlocks hK hA hw dL_pay_17 rfl ⟨2, Z9, g, Or.inr (Or.inr (⟨rfl, hT7⟩)), rfl, rfl⟩
  · obtain ⟨zz, Z9, hF, rfl, rfl⟩ := hq
    have hw : lo_Wd X ((clB X ad pa pb qa qb ra rb ha hb Z9).flatten ++ [arJ cJ oa 1 g]) A9 s9.heap H locs := lo_cast (lo_sets_hd clB_n clB_n) hw
    refine W.eq (g2 := F0 m9 7 ls [.int (iI zz), .int (iI 0), .ref oa]) rfl ?_
    refine lv_i2l Ex Eb dL_pay_7 rfl ?_
    refine lo_last E hJ hw 145 rfl dL_pay_8 (fun H locs f hf hw => ?_)
    refine lv_goto Ex Eb dL_pay_9 rfl ?_
    have hw : lo_Wd X ((clB X ad pa pb qa qb ra rb ha hb Z9).flatten ++ [arJ cJ oa 1 f]) A9 s9.heap H locs := hw
    refine lv_iconst (v := iI 0) Ex Eb dL_pay_18 rfl ?_
    exact lo_iret E hr hlocks hK hA hw dL_pay_19 rfl ⟨0, Z9, f, Or.inl ⟨rfl, zz, hF, hf⟩, rfl, rfl⟩
def W7_payExtra (Z : CZ) (i : Int) (k : Int) (y : Int) (kk : Int) (Z9 : CZ) (g9 : Nat → Int64) : Prop := (kk = 0 ∧ ∃ zz : Int, F7_payExtra Z i k y zz Z9 ∧ g9 0 = (iI zz).toInt64) ∨ (kk = 1 ∧ T7_payExtra Z i k y "java/lang/IndexOutOfBoundsException" Z9) ∨ (kk = 2 ∧ T7_payExtra Z i k y "java/lang/IllegalArgumentException" Z9) ∨ (kk = 3 ∧ T7_payExtra Z i k y "java/lang/IllegalStateException" Z9)
theorem T7_payExtra_E {Z Z9 : CZ} {i : Int} {k : Int} {y : Int} {E9 : String} (h : T7_payExtra Z i k y E9 Z9) : E9 = "java/lang/IndexOutOfBoundsException" ∨ E9 = "java/lang/IllegalArgumentException" ∨ E9 = "java/lang/IllegalStateException" := by
  obtain ⟨f0, -⟩ := h
  first | exact f0.imp (fun q => q.1) (Or.imp (fun q => q.1) (fun q => q.1))
set_option maxHeartbeats 1000000 in
set_option maxRecDepth 100000 in
theorem kL_payExtra (l : Launch) (X : KX) (cJ : ClassId) (kS : Nat → Nat) (hst : l.stackTraces = false) (ad pa pb qa qb ra rb : Nat → Nat) (ha hb : Nat → Nat → Nat) (Z : CZ) (Y : RZ) (hS : SIM Z Y) (i : Int) (k : Int) (y : Int) (hi9 : i32 i) (hk9 : i32 k) (hy : y = 0 ∨ y = 1) (oa : Nat) (g : Nat → Int64) : CL l X cJ kS yL_payExtra wsL_payExtra ({ frames := 8, cells := 3, slots := 18, locals := 148 }) [.ref (ad 0), .int (iI i), .int (iI k), .int (iI y), .ref oa] ((clB X ad pa pb qa qb ra rb ha hb Z).flatten ++ [arJ cJ oa 1 g]) (fun v9 w9 => ∃ (kk : Int) (Z9 : CZ) (g9 : Nat → Int64), W7_payExtra Z i k y kk Z9 g9 ∧ v9 = some (.int (iI kk)) ∧ w9 = (clB X ad pa pb qa qb ra rb ha hb Z9).flatten ++ [arJ cJ oa 1 g9]) 3 18 := by
  refine lo_enterL (cc := cL_payExtra) (maxL := 6) (ret := some .int) (hh := [(0, 12, 15, 24), (0, 12, 19, 13), (0, 12, 23, 19)]) (lv := [(0, .ref (ad 0)), (1, .int (iI i)), (2, .int (iI k)), (3, .int (iI y)), (4, .ref oa)]) (by decide) rfl rfl (Nat.le_of_ble_eq_true rfl) ?_
  intro p9 e9 s9 m9 bl9 me9 c9 A9 ls hA E hr hlocks hK hl hw hV hT hJ
  have Ex := E.1
  have Eb := E.2.1
  refine lv_aload Ex Eb dL_payExtra_0 (lv_at hl 4 rfl) ?_
  refine lv_iconst (v := iI 0) Ex Eb dL_payExtra_2 rfl ?_
  refine lv_aload_n Ex Eb dL_payExtra_3 rfl (lv_at hl 0 rfl) ?_
  refine lv_iload_n Ex Eb dL_payExtra_4 rfl (lv_at hl 1 rfl) ?_
  refine lv_iload_n Ex Eb dL_payExtra_5 rfl (lv_at hl 2 rfl) ?_
  refine lv_iload_n Ex Eb dL_payExtra_6 rfl (lv_at hl 3 rfl) ?_
  refine lo_callVT (q0 := 0) (rest := [.int (iI 0), .ref oa]) E hK hw hV (vX7_payExtra l X kS hst ad pa pb qa qb ra rb ha hb Z Y hS i k y hi9 hk9 hy) (cwV 3 E.2.2.2.2 gL_payExtra_X7_payExtra rfl rfl rfl (by decide +kernel) ⟨Nat.le_of_ble_eq_true rfl, Nat.le_of_ble_eq_true rfl⟩) rfl rfl (List.range' 0 145) (lo_ps_hd clB_n) (by decide +kernel) hl.1 rfl rfl (Nat.le_of_ble_eq_true rfl) dL_payExtra_7 ⟨Nat.le_of_ble_eq_true rfl, Nat.le_of_ble_eq_true rfl⟩ (fun E9 ce9 q9 w1 H locs hq hw hx1 hx2 hx3 => ?_) (fun v w1 H locs hq hw => ?_)
  · obtain ⟨Z9, hT7, rfl⟩ := hq
    have hw : lo_Wd X ((clB X ad pa pb qa qb ra rb ha hb Z9).flatten ++ [arJ cJ oa 1 g]) A9 s9.heap H locs := lo_cast (lo_sets_hd clB_n clB_n) hw
    rcases T7_payExtra_E hT7 with rfl | rfl | rfl
    · refine lo_catch (name := "java/lang/IndexOutOfBoundsException") E [] (exE (0, 12, 15, 24)) [exE (0, 12, 19, 13), exE (0, 12, 23, 19)] (hT.trans rfl) (pass0 ) rfl (by decide) (E.2.2.2.2 _ (List.mem_of_getElem? (i := 1) rfl)) (hV.2.2.2.2.2.2.2 _ (List.mem_of_getElem? (i := 5) rfl)) hx1 hx2 hx3 ?_
      refine W.eq (g2 := F0 m9 15 ls [.ref q9]) rfl ?_
      refine lv_astore (lv' := [(5, .ref q9), (0, .ref (ad 0)), (1, .int (iI i)), (2, .int (iI k)), (3, .int (iI y)), (4, .ref oa)]) Ex Eb dL_payExtra_15 hl (by decide) rfl (fun ls hl => ?_)
      refine lv_iconst (v := iI 1) Ex Eb dL_payExtra_17 rfl ?_
      exact lo_iret E hr hlocks hK hA hw dL_payExtra_18 rfl ⟨1, Z9, g, Or.inr (Or.inl ⟨rfl, hT7⟩), rfl, rfl⟩
    · refine lo_catch (name := "java/lang/IllegalArgumentException") E [exE (0, 12, 15, 24)] (exE (0, 12, 19, 13)) [exE (0, 12, 23, 19)] (hT.trans rfl) (pass1 (Or.inr ⟨by decide, "java/lang/IndexOutOfBoundsException", E.2.2.2.2 _ (List.mem_of_getElem? (i := 1) rfl), hJ.2.2.2⟩)) rfl (by decide) (E.2.2.2.2 _ (List.mem_of_getElem? (i := 2) rfl)) (hV.2.2.2.2.2.2.2 _ (List.mem_of_getElem? (i := 3) rfl)) hx1 hx2 hx3 ?_
      refine W.eq (g2 := F0 m9 19 ls [.ref q9]) rfl ?_
      refine lv_astore (lv' := [(5, .ref q9), (0, .ref (ad 0)), (1, .int (iI i)), (2, .int (iI k)), (3, .int (iI y)), (4, .ref oa)]) Ex Eb dL_payExtra_19 hl (by decide) rfl (fun ls hl => ?_)
      refine lv_iconst (v := iI 2) Ex Eb dL_payExtra_21 rfl ?_
      exact lo_iret E hr hlocks hK hA hw dL_payExtra_22 rfl ⟨2, Z9, g, Or.inr (Or.inr (Or.inl ⟨rfl, hT7⟩)), rfl, rfl⟩
    · refine lo_catch (name := "java/lang/IllegalStateException") E [exE (0, 12, 15, 24), exE (0, 12, 19, 13)] (exE (0, 12, 23, 19)) [] (hT.trans rfl) (pass2 (Or.inr ⟨by decide, "java/lang/IndexOutOfBoundsException", E.2.2.2.2 _ (List.mem_of_getElem? (i := 1) rfl), hJ.2.1⟩) (Or.inr ⟨by decide, "java/lang/IllegalArgumentException", E.2.2.2.2 _ (List.mem_of_getElem? (i := 2) rfl), hJ.2.2.1⟩)) rfl (by decide) (E.2.2.2.2 _ (List.mem_of_getElem? (i := 3) rfl)) (hV.2.2.2.2.2.2.2 _ (List.mem_of_getElem? (i := 4) rfl)) hx1 hx2 hx3 ?_
      refine W.eq (g2 := F0 m9 23 ls [.ref q9]) rfl ?_
      refine lv_astore (lv' := [(5, .ref q9), (0, .ref (ad 0)), (1, .int (iI i)), (2, .int (iI k)), (3, .int (iI y)), (4, .ref oa)]) Ex Eb dL_payExtra_23 hl (by decide) rfl (fun ls hl => ?_)
      refine lv_iconst (v := iI 3) Ex Eb dL_payExtra_25 rfl ?_
      exact lo_iret E hr hlocks hK hA hw dL_payExtra_26 rfl ⟨3, Z9, g, Or.inr (Or.inr (Or.inr (⟨rfl, hT7⟩))), rfl, rfl⟩
  · obtain ⟨zz, Z9, hF, rfl, rfl⟩ := hq
    have hw : lo_Wd X ((clB X ad pa pb qa qb ra rb ha hb Z9).flatten ++ [arJ cJ oa 1 g]) A9 s9.heap H locs := lo_cast (lo_sets_hd clB_n clB_n) hw
    refine W.eq (g2 := F0 m9 10 ls [.int (iI zz), .int (iI 0), .ref oa]) rfl ?_
    refine lv_i2l Ex Eb dL_payExtra_10 rfl ?_
    refine lo_last E hJ hw 145 rfl dL_payExtra_11 (fun H locs f hf hw => ?_)
    refine lv_goto Ex Eb dL_payExtra_12 rfl ?_
    have hw : lo_Wd X ((clB X ad pa pb qa qb ra rb ha hb Z9).flatten ++ [arJ cJ oa 1 f]) A9 s9.heap H locs := hw
    refine lv_iconst (v := iI 0) Ex Eb dL_payExtra_27 rfl ?_
    exact lo_iret E hr hlocks hK hA hw dL_payExtra_28 rfl ⟨0, Z9, f, Or.inl ⟨rfl, zz, hF, hf⟩, rfl, rfl⟩
def W7_skipMonth (Z : CZ) (i : Int) (kk : Int) (Z9 : CZ) (g9 : Nat → Int64) : Prop := (kk = 0 ∧ ∃ zz : Int, F7_skipMonth Z i zz Z9 ∧ g9 0 = (iI zz).toInt64) ∨ (kk = 1 ∧ T7_skipMonth Z i "java/lang/IndexOutOfBoundsException" Z9) ∨ (kk = 2 ∧ T7_skipMonth Z i "java/lang/IllegalStateException" Z9)
theorem T7_skipMonth_E {Z Z9 : CZ} {i : Int} {E9 : String} (h : T7_skipMonth Z i E9 Z9) : E9 = "java/lang/IndexOutOfBoundsException" ∨ E9 = "java/lang/IllegalStateException" := by
  obtain ⟨f0, -⟩ := h
  first | exact f0.imp (fun q => q.1) (fun q => q.1)
set_option maxHeartbeats 1000000 in
set_option maxRecDepth 100000 in
theorem kL_skipMonth (l : Launch) (X : KX) (cJ : ClassId) (kS : Nat → Nat) (hst : l.stackTraces = false) (ad pa pb qa qb ra rb : Nat → Nat) (ha hb : Nat → Nat → Nat) (Z : CZ) (Y : RZ) (hS : SIM Z Y) (i : Int) (hi9 : i32 i) (oa : Nat) (g : Nat → Int64) : CL l X cJ kS yL_skipMonth wsL_skipMonth ({ frames := 8, cells := 2, slots := 12, locals := 146 }) [.ref (ad 0), .int (iI i), .ref oa] ((clB X ad pa pb qa qb ra rb ha hb Z).flatten ++ [arJ cJ oa 1 g]) (fun v9 w9 => ∃ (kk : Int) (Z9 : CZ) (g9 : Nat → Int64), W7_skipMonth Z i kk Z9 g9 ∧ v9 = some (.int (iI kk)) ∧ w9 = (clB X ad pa pb qa qb ra rb ha hb Z9).flatten ++ [arJ cJ oa 1 g9]) 2 12 := by
  refine lo_enterL (cc := cL_skipMonth) (maxL := 4) (ret := some .int) (hh := [(0, 9, 12, 24), (0, 9, 15, 19)]) (lv := [(0, .ref (ad 0)), (1, .int (iI i)), (2, .ref oa)]) (by decide) rfl rfl (Nat.le_of_ble_eq_true rfl) ?_
  intro p9 e9 s9 m9 bl9 me9 c9 A9 ls hA E hr hlocks hK hl hw hV hT hJ
  have Ex := E.1
  have Eb := E.2.1
  refine lv_aload_n Ex Eb dL_skipMonth_0 rfl (lv_at hl 2 rfl) ?_
  refine lv_iconst (v := iI 0) Ex Eb dL_skipMonth_1 rfl ?_
  refine lv_aload_n Ex Eb dL_skipMonth_2 rfl (lv_at hl 0 rfl) ?_
  refine lv_iload_n Ex Eb dL_skipMonth_3 rfl (lv_at hl 1 rfl) ?_
  refine lo_callVT (q0 := 0) (rest := [.int (iI 0), .ref oa]) E hK hw hV (vX7_skipMonth l X kS hst ad pa pb qa qb ra rb ha hb Z Y hS i hi9) (cwV 1 E.2.2.2.2 gL_skipMonth_X7_skipMonth rfl rfl rfl (by decide +kernel) ⟨Nat.le_of_ble_eq_true rfl, Nat.le_of_ble_eq_true rfl⟩) rfl rfl (List.range' 0 145) (lo_ps_hd clB_n) (by decide +kernel) hl.1 rfl rfl (Nat.le_of_ble_eq_true rfl) dL_skipMonth_4 ⟨Nat.le_of_ble_eq_true rfl, Nat.le_of_ble_eq_true rfl⟩ (fun E9 ce9 q9 w1 H locs hq hw hx1 hx2 hx3 => ?_) (fun v w1 H locs hq hw => ?_)
  · obtain ⟨Z9, hT7, rfl⟩ := hq
    have hw : lo_Wd X ((clB X ad pa pb qa qb ra rb ha hb Z9).flatten ++ [arJ cJ oa 1 g]) A9 s9.heap H locs := lo_cast (lo_sets_hd clB_n clB_n) hw
    rcases T7_skipMonth_E hT7 with rfl | rfl
    · refine lo_catch (name := "java/lang/IndexOutOfBoundsException") E [] (exE (0, 9, 12, 24)) [exE (0, 9, 15, 19)] (hT.trans rfl) (pass0 ) rfl (by decide) (E.2.2.2.2 _ (List.mem_of_getElem? (i := 1) rfl)) (hV.2.2.2.2.2.2.2 _ (List.mem_of_getElem? (i := 5) rfl)) hx1 hx2 hx3 ?_
      refine W.eq (g2 := F0 m9 12 ls [.ref q9]) rfl ?_
      refine lv_astore_n (lv' := [(3, .ref q9), (0, .ref (ad 0)), (1, .int (iI i)), (2, .ref oa)]) Ex Eb dL_skipMonth_12 rfl hl (by decide) rfl (fun ls hl => ?_)
      refine lv_iconst (v := iI 1) Ex Eb dL_skipMonth_13 rfl ?_
      exact lo_iret E hr hlocks hK hA hw dL_skipMonth_14 rfl ⟨1, Z9, g, Or.inr (Or.inl ⟨rfl, hT7⟩), rfl, rfl⟩
    · refine lo_catch (name := "java/lang/IllegalStateException") E [exE (0, 9, 12, 24)] (exE (0, 9, 15, 19)) [] (hT.trans rfl) (pass1 (Or.inr ⟨by decide, "java/lang/IndexOutOfBoundsException", E.2.2.2.2 _ (List.mem_of_getElem? (i := 1) rfl), hJ.2.1⟩)) rfl (by decide) (E.2.2.2.2 _ (List.mem_of_getElem? (i := 2) rfl)) (hV.2.2.2.2.2.2.2 _ (List.mem_of_getElem? (i := 4) rfl)) hx1 hx2 hx3 ?_
      refine W.eq (g2 := F0 m9 15 ls [.ref q9]) rfl ?_
      refine lv_astore_n (lv' := [(3, .ref q9), (0, .ref (ad 0)), (1, .int (iI i)), (2, .ref oa)]) Ex Eb dL_skipMonth_15 rfl hl (by decide) rfl (fun ls hl => ?_)
      refine lv_iconst (v := iI 2) Ex Eb dL_skipMonth_16 rfl ?_
      exact lo_iret E hr hlocks hK hA hw dL_skipMonth_17 rfl ⟨2, Z9, g, Or.inr (Or.inr (⟨rfl, hT7⟩)), rfl, rfl⟩
  · obtain ⟨zz, Z9, hF, rfl, rfl⟩ := hq
    have hw : lo_Wd X ((clB X ad pa pb qa qb ra rb ha hb Z9).flatten ++ [arJ cJ oa 1 g]) A9 s9.heap H locs := lo_cast (lo_sets_hd clB_n clB_n) hw
    refine W.eq (g2 := F0 m9 7 ls [.int (iI zz), .int (iI 0), .ref oa]) rfl ?_
    refine lv_i2l Ex Eb dL_skipMonth_7 rfl ?_
    refine lo_last E hJ hw 145 rfl dL_skipMonth_8 (fun H locs f hf hw => ?_)
    refine lv_goto Ex Eb dL_skipMonth_9 rfl ?_
    have hw : lo_Wd X ((clB X ad pa pb qa qb ra rb ha hb Z9).flatten ++ [arJ cJ oa 1 f]) A9 s9.heap H locs := hw
    refine lv_iconst (v := iI 0) Ex Eb dL_skipMonth_18 rfl ?_
    exact lo_iret E hr hlocks hK hA hw dL_skipMonth_19 rfl ⟨0, Z9, f, Or.inl ⟨rfl, zz, hF, hf⟩, rfl, rfl⟩
def W7_changeRate (Z : CZ) (i : Int) (k : Int) (kk : Int) (Z9 : CZ) (g9 : Nat → Int64) : Prop := (kk = 0 ∧ ∃ zz : Int, F7_changeRate Z i k zz Z9 ∧ g9 0 = (iI zz).toInt64) ∨ (kk = 1 ∧ T7_changeRate Z i k "java/lang/IndexOutOfBoundsException" Z9) ∨ (kk = 2 ∧ T7_changeRate Z i k "java/lang/IllegalArgumentException" Z9) ∨ (kk = 3 ∧ T7_changeRate Z i k "java/lang/IllegalStateException" Z9)
theorem T7_changeRate_E {Z Z9 : CZ} {i : Int} {k : Int} {E9 : String} (h : T7_changeRate Z i k E9 Z9) : E9 = "java/lang/IndexOutOfBoundsException" ∨ E9 = "java/lang/IllegalArgumentException" ∨ E9 = "java/lang/IllegalStateException" := by
  obtain ⟨f0, -⟩ := h
  first | exact f0.imp (fun q => q.1) (Or.imp (fun q => q.1) (fun q => q.1))
set_option maxHeartbeats 1000000 in
set_option maxRecDepth 100000 in
theorem kL_changeRate (l : Launch) (X : KX) (cJ : ClassId) (kS : Nat → Nat) (hst : l.stackTraces = false) (ad pa pb qa qb ra rb : Nat → Nat) (ha hb : Nat → Nat → Nat) (Z : CZ) (Y : RZ) (hS : SIM Z Y) (i : Int) (k : Int) (hi9 : i32 i) (hk9 : i32 k) (oa : Nat) (g : Nat → Int64) : CL l X cJ kS yL_changeRate wsL_changeRate ({ frames := 8, cells := 3, slots := 18, locals := 147 }) [.ref (ad 0), .int (iI i), .int (iI k), .ref oa] ((clB X ad pa pb qa qb ra rb ha hb Z).flatten ++ [arJ cJ oa 1 g]) (fun v9 w9 => ∃ (kk : Int) (Z9 : CZ) (g9 : Nat → Int64), W7_changeRate Z i k kk Z9 g9 ∧ v9 = some (.int (iI kk)) ∧ w9 = (clB X ad pa pb qa qb ra rb ha hb Z9).flatten ++ [arJ cJ oa 1 g9]) 3 18 := by
  refine lo_enterL (cc := cL_changeRate) (maxL := 5) (ret := some .int) (hh := [(0, 10, 13, 24), (0, 10, 17, 13), (0, 10, 21, 19)]) (lv := [(0, .ref (ad 0)), (1, .int (iI i)), (2, .int (iI k)), (3, .ref oa)]) (by decide) rfl rfl (Nat.le_of_ble_eq_true rfl) ?_
  intro p9 e9 s9 m9 bl9 me9 c9 A9 ls hA E hr hlocks hK hl hw hV hT hJ
  have Ex := E.1
  have Eb := E.2.1
  refine lv_aload_n Ex Eb dL_changeRate_0 rfl (lv_at hl 3 rfl) ?_
  refine lv_iconst (v := iI 0) Ex Eb dL_changeRate_1 rfl ?_
  refine lv_aload_n Ex Eb dL_changeRate_2 rfl (lv_at hl 0 rfl) ?_
  refine lv_iload_n Ex Eb dL_changeRate_3 rfl (lv_at hl 1 rfl) ?_
  refine lv_iload_n Ex Eb dL_changeRate_4 rfl (lv_at hl 2 rfl) ?_
  refine lo_callVT (q0 := 0) (rest := [.int (iI 0), .ref oa]) E hK hw hV (vX7_changeRate l X kS hst ad pa pb qa qb ra rb ha hb Z Y hS i k hi9 hk9) (cwV 2 E.2.2.2.2 gL_changeRate_X7_changeRate rfl rfl rfl (by decide +kernel) ⟨Nat.le_of_ble_eq_true rfl, Nat.le_of_ble_eq_true rfl⟩) rfl rfl (List.range' 0 145) (lo_ps_hd clB_n) (by decide +kernel) hl.1 rfl rfl (Nat.le_of_ble_eq_true rfl) dL_changeRate_5 ⟨Nat.le_of_ble_eq_true rfl, Nat.le_of_ble_eq_true rfl⟩ (fun E9 ce9 q9 w1 H locs hq hw hx1 hx2 hx3 => ?_) (fun v w1 H locs hq hw => ?_)
  · obtain ⟨Z9, hT7, rfl⟩ := hq
    have hw : lo_Wd X ((clB X ad pa pb qa qb ra rb ha hb Z9).flatten ++ [arJ cJ oa 1 g]) A9 s9.heap H locs := lo_cast (lo_sets_hd clB_n clB_n) hw
    rcases T7_changeRate_E hT7 with rfl | rfl | rfl
    · refine lo_catch (name := "java/lang/IndexOutOfBoundsException") E [] (exE (0, 10, 13, 24)) [exE (0, 10, 17, 13), exE (0, 10, 21, 19)] (hT.trans rfl) (pass0 ) rfl (by decide) (E.2.2.2.2 _ (List.mem_of_getElem? (i := 1) rfl)) (hV.2.2.2.2.2.2.2 _ (List.mem_of_getElem? (i := 5) rfl)) hx1 hx2 hx3 ?_
      refine W.eq (g2 := F0 m9 13 ls [.ref q9]) rfl ?_
      refine lv_astore (lv' := [(4, .ref q9), (0, .ref (ad 0)), (1, .int (iI i)), (2, .int (iI k)), (3, .ref oa)]) Ex Eb dL_changeRate_13 hl (by decide) rfl (fun ls hl => ?_)
      refine lv_iconst (v := iI 1) Ex Eb dL_changeRate_15 rfl ?_
      exact lo_iret E hr hlocks hK hA hw dL_changeRate_16 rfl ⟨1, Z9, g, Or.inr (Or.inl ⟨rfl, hT7⟩), rfl, rfl⟩
    · refine lo_catch (name := "java/lang/IllegalArgumentException") E [exE (0, 10, 13, 24)] (exE (0, 10, 17, 13)) [exE (0, 10, 21, 19)] (hT.trans rfl) (pass1 (Or.inr ⟨by decide, "java/lang/IndexOutOfBoundsException", E.2.2.2.2 _ (List.mem_of_getElem? (i := 1) rfl), hJ.2.2.2⟩)) rfl (by decide) (E.2.2.2.2 _ (List.mem_of_getElem? (i := 2) rfl)) (hV.2.2.2.2.2.2.2 _ (List.mem_of_getElem? (i := 3) rfl)) hx1 hx2 hx3 ?_
      refine W.eq (g2 := F0 m9 17 ls [.ref q9]) rfl ?_
      refine lv_astore (lv' := [(4, .ref q9), (0, .ref (ad 0)), (1, .int (iI i)), (2, .int (iI k)), (3, .ref oa)]) Ex Eb dL_changeRate_17 hl (by decide) rfl (fun ls hl => ?_)
      refine lv_iconst (v := iI 2) Ex Eb dL_changeRate_19 rfl ?_
      exact lo_iret E hr hlocks hK hA hw dL_changeRate_20 rfl ⟨2, Z9, g, Or.inr (Or.inr (Or.inl ⟨rfl, hT7⟩)), rfl, rfl⟩
    · refine lo_catch (name := "java/lang/IllegalStateException") E [exE (0, 10, 13, 24), exE (0, 10, 17, 13)] (exE (0, 10, 21, 19)) [] (hT.trans rfl) (pass2 (Or.inr ⟨by decide, "java/lang/IndexOutOfBoundsException", E.2.2.2.2 _ (List.mem_of_getElem? (i := 1) rfl), hJ.2.1⟩) (Or.inr ⟨by decide, "java/lang/IllegalArgumentException", E.2.2.2.2 _ (List.mem_of_getElem? (i := 2) rfl), hJ.2.2.1⟩)) rfl (by decide) (E.2.2.2.2 _ (List.mem_of_getElem? (i := 3) rfl)) (hV.2.2.2.2.2.2.2 _ (List.mem_of_getElem? (i := 4) rfl)) hx1 hx2 hx3 ?_
      refine W.eq (g2 := F0 m9 21 ls [.ref q9]) rfl ?_
      refine lv_astore (lv' := [(4, .ref q9), (0, .ref (ad 0)), (1, .int (iI i)), (2, .int (iI k)), (3, .ref oa)]) Ex Eb dL_changeRate_21 hl (by decide) rfl (fun ls hl => ?_)
      refine lv_iconst (v := iI 3) Ex Eb dL_changeRate_23 rfl ?_
      exact lo_iret E hr hlocks hK hA hw dL_changeRate_24 rfl ⟨3, Z9, g, Or.inr (Or.inr (Or.inr (⟨rfl, hT7⟩))), rfl, rfl⟩
  · obtain ⟨zz, Z9, hF, rfl, rfl⟩ := hq
    have hw : lo_Wd X ((clB X ad pa pb qa qb ra rb ha hb Z9).flatten ++ [arJ cJ oa 1 g]) A9 s9.heap H locs := lo_cast (lo_sets_hd clB_n clB_n) hw
    refine W.eq (g2 := F0 m9 8 ls [.int (iI zz), .int (iI 0), .ref oa]) rfl ?_
    refine lv_i2l Ex Eb dL_changeRate_8 rfl ?_
    refine lo_last E hJ hw 145 rfl dL_changeRate_9 (fun H locs f hf hw => ?_)
    refine lv_goto Ex Eb dL_changeRate_10 rfl ?_
    have hw : lo_Wd X ((clB X ad pa pb qa qb ra rb ha hb Z9).flatten ++ [arJ cJ oa 1 f]) A9 s9.heap H locs := hw
    refine lv_iconst (v := iI 0) Ex Eb dL_changeRate_25 rfl ?_
    exact lo_iret E hr hlocks hK hA hw dL_changeRate_26 rfl ⟨0, Z9, f, Or.inl ⟨rfl, zz, hF, hf⟩, rfl, rfl⟩
def W7_extendTerm (Z : CZ) (i : Int) (k : Int) (kk : Int) (Z9 : CZ) (g9 : Nat → Int64) : Prop := (kk = 0 ∧ ∃ zz : Int, F7_extendTerm Z i k zz Z9 ∧ g9 0 = (iI zz).toInt64) ∨ (kk = 1 ∧ T7_extendTerm Z i k "java/lang/IndexOutOfBoundsException" Z9) ∨ (kk = 2 ∧ T7_extendTerm Z i k "java/lang/IllegalArgumentException" Z9) ∨ (kk = 3 ∧ T7_extendTerm Z i k "java/lang/IllegalStateException" Z9)
theorem T7_extendTerm_E {Z Z9 : CZ} {i : Int} {k : Int} {E9 : String} (h : T7_extendTerm Z i k E9 Z9) : E9 = "java/lang/IndexOutOfBoundsException" ∨ E9 = "java/lang/IllegalArgumentException" ∨ E9 = "java/lang/IllegalStateException" := by
  obtain ⟨f0, -⟩ := h
  first | exact f0.imp (fun q => q.1) (Or.imp (fun q => q.1) (fun q => q.1))
set_option maxHeartbeats 1000000 in
set_option maxRecDepth 100000 in
theorem kL_extendTerm (l : Launch) (X : KX) (cJ : ClassId) (kS : Nat → Nat) (hst : l.stackTraces = false) (ad pa pb qa qb ra rb : Nat → Nat) (ha hb : Nat → Nat → Nat) (Z : CZ) (Y : RZ) (hS : SIM Z Y) (i : Int) (k : Int) (hi9 : i32 i) (hk9 : i32 k) (oa : Nat) (g : Nat → Int64) : CL l X cJ kS yL_extendTerm wsL_extendTerm ({ frames := 8, cells := 3, slots := 18, locals := 147 }) [.ref (ad 0), .int (iI i), .int (iI k), .ref oa] ((clB X ad pa pb qa qb ra rb ha hb Z).flatten ++ [arJ cJ oa 1 g]) (fun v9 w9 => ∃ (kk : Int) (Z9 : CZ) (g9 : Nat → Int64), W7_extendTerm Z i k kk Z9 g9 ∧ v9 = some (.int (iI kk)) ∧ w9 = (clB X ad pa pb qa qb ra rb ha hb Z9).flatten ++ [arJ cJ oa 1 g9]) 3 18 := by
  refine lo_enterL (cc := cL_extendTerm) (maxL := 5) (ret := some .int) (hh := [(0, 10, 13, 24), (0, 10, 17, 13), (0, 10, 21, 19)]) (lv := [(0, .ref (ad 0)), (1, .int (iI i)), (2, .int (iI k)), (3, .ref oa)]) (by decide) rfl rfl (Nat.le_of_ble_eq_true rfl) ?_
  intro p9 e9 s9 m9 bl9 me9 c9 A9 ls hA E hr hlocks hK hl hw hV hT hJ
  have Ex := E.1
  have Eb := E.2.1
  refine lv_aload_n Ex Eb dL_extendTerm_0 rfl (lv_at hl 3 rfl) ?_
  refine lv_iconst (v := iI 0) Ex Eb dL_extendTerm_1 rfl ?_
  refine lv_aload_n Ex Eb dL_extendTerm_2 rfl (lv_at hl 0 rfl) ?_
  refine lv_iload_n Ex Eb dL_extendTerm_3 rfl (lv_at hl 1 rfl) ?_
  refine lv_iload_n Ex Eb dL_extendTerm_4 rfl (lv_at hl 2 rfl) ?_
  refine lo_callVT (q0 := 0) (rest := [.int (iI 0), .ref oa]) E hK hw hV (vX7_extendTerm l X kS hst ad pa pb qa qb ra rb ha hb Z Y hS i k hi9 hk9) (cwV 2 E.2.2.2.2 gL_extendTerm_X7_extendTerm rfl rfl rfl (by decide +kernel) ⟨Nat.le_of_ble_eq_true rfl, Nat.le_of_ble_eq_true rfl⟩) rfl rfl (List.range' 0 145) (lo_ps_hd clB_n) (by decide +kernel) hl.1 rfl rfl (Nat.le_of_ble_eq_true rfl) dL_extendTerm_5 ⟨Nat.le_of_ble_eq_true rfl, Nat.le_of_ble_eq_true rfl⟩ (fun E9 ce9 q9 w1 H locs hq hw hx1 hx2 hx3 => ?_) (fun v w1 H locs hq hw => ?_)
  · obtain ⟨Z9, hT7, rfl⟩ := hq
    have hw : lo_Wd X ((clB X ad pa pb qa qb ra rb ha hb Z9).flatten ++ [arJ cJ oa 1 g]) A9 s9.heap H locs := lo_cast (lo_sets_hd clB_n clB_n) hw
    rcases T7_extendTerm_E hT7 with rfl | rfl | rfl
    · refine lo_catch (name := "java/lang/IndexOutOfBoundsException") E [] (exE (0, 10, 13, 24)) [exE (0, 10, 17, 13), exE (0, 10, 21, 19)] (hT.trans rfl) (pass0 ) rfl (by decide) (E.2.2.2.2 _ (List.mem_of_getElem? (i := 1) rfl)) (hV.2.2.2.2.2.2.2 _ (List.mem_of_getElem? (i := 5) rfl)) hx1 hx2 hx3 ?_
      refine W.eq (g2 := F0 m9 13 ls [.ref q9]) rfl ?_
      refine lv_astore (lv' := [(4, .ref q9), (0, .ref (ad 0)), (1, .int (iI i)), (2, .int (iI k)), (3, .ref oa)]) Ex Eb dL_extendTerm_13 hl (by decide) rfl (fun ls hl => ?_)
      refine lv_iconst (v := iI 1) Ex Eb dL_extendTerm_15 rfl ?_
      exact lo_iret E hr hlocks hK hA hw dL_extendTerm_16 rfl ⟨1, Z9, g, Or.inr (Or.inl ⟨rfl, hT7⟩), rfl, rfl⟩
    · refine lo_catch (name := "java/lang/IllegalArgumentException") E [exE (0, 10, 13, 24)] (exE (0, 10, 17, 13)) [exE (0, 10, 21, 19)] (hT.trans rfl) (pass1 (Or.inr ⟨by decide, "java/lang/IndexOutOfBoundsException", E.2.2.2.2 _ (List.mem_of_getElem? (i := 1) rfl), hJ.2.2.2⟩)) rfl (by decide) (E.2.2.2.2 _ (List.mem_of_getElem? (i := 2) rfl)) (hV.2.2.2.2.2.2.2 _ (List.mem_of_getElem? (i := 3) rfl)) hx1 hx2 hx3 ?_
      refine W.eq (g2 := F0 m9 17 ls [.ref q9]) rfl ?_
      refine lv_astore (lv' := [(4, .ref q9), (0, .ref (ad 0)), (1, .int (iI i)), (2, .int (iI k)), (3, .ref oa)]) Ex Eb dL_extendTerm_17 hl (by decide) rfl (fun ls hl => ?_)
      refine lv_iconst (v := iI 2) Ex Eb dL_extendTerm_19 rfl ?_
      exact lo_iret E hr hlocks hK hA hw dL_extendTerm_20 rfl ⟨2, Z9, g, Or.inr (Or.inr (Or.inl ⟨rfl, hT7⟩)), rfl, rfl⟩
    · refine lo_catch (name := "java/lang/IllegalStateException") E [exE (0, 10, 13, 24), exE (0, 10, 17, 13)] (exE (0, 10, 21, 19)) [] (hT.trans rfl) (pass2 (Or.inr ⟨by decide, "java/lang/IndexOutOfBoundsException", E.2.2.2.2 _ (List.mem_of_getElem? (i := 1) rfl), hJ.2.1⟩) (Or.inr ⟨by decide, "java/lang/IllegalArgumentException", E.2.2.2.2 _ (List.mem_of_getElem? (i := 2) rfl), hJ.2.2.1⟩)) rfl (by decide) (E.2.2.2.2 _ (List.mem_of_getElem? (i := 3) rfl)) (hV.2.2.2.2.2.2.2 _ (List.mem_of_getElem? (i := 4) rfl)) hx1 hx2 hx3 ?_
      refine W.eq (g2 := F0 m9 21 ls [.ref q9]) rfl ?_
      refine lv_astore (lv' := [(4, .ref q9), (0, .ref (ad 0)), (1, .int (iI i)), (2, .int (iI k)), (3, .ref oa)]) Ex Eb dL_extendTerm_21 hl (by decide) rfl (fun ls hl => ?_)
      refine lv_iconst (v := iI 3) Ex Eb dL_extendTerm_23 rfl ?_
      exact lo_iret E hr hlocks hK hA hw dL_extendTerm_24 rfl ⟨3, Z9, g, Or.inr (Or.inr (Or.inr (⟨rfl, hT7⟩))), rfl, rfl⟩
  · obtain ⟨zz, Z9, hF, rfl, rfl⟩ := hq
    have hw : lo_Wd X ((clB X ad pa pb qa qb ra rb ha hb Z9).flatten ++ [arJ cJ oa 1 g]) A9 s9.heap H locs := lo_cast (lo_sets_hd clB_n clB_n) hw
    refine W.eq (g2 := F0 m9 8 ls [.int (iI zz), .int (iI 0), .ref oa]) rfl ?_
    refine lv_i2l Ex Eb dL_extendTerm_8 rfl ?_
    refine lo_last E hJ hw 145 rfl dL_extendTerm_9 (fun H locs f hf hw => ?_)
    refine lv_goto Ex Eb dL_extendTerm_10 rfl ?_
    have hw : lo_Wd X ((clB X ad pa pb qa qb ra rb ha hb Z9).flatten ++ [arJ cJ oa 1 f]) A9 s9.heap H locs := hw
    refine lv_iconst (v := iI 0) Ex Eb dL_extendTerm_25 rfl ?_
    exact lo_iret E hr hlocks hK hA hw dL_extendTerm_26 rfl ⟨0, Z9, f, Or.inl ⟨rfl, zz, hF, hf⟩, rfl, rfl⟩
def W7_refinance (Z : CZ) (i : Int) (k : Int) (m : Int) (kk : Int) (Z9 : CZ) (g9 : Nat → Int64) : Prop := (kk = 0 ∧ ∃ zz : Int, F7_refinance Z i k m zz Z9 ∧ g9 0 = (iI zz).toInt64) ∨ (kk = 1 ∧ T7_refinance Z i k m "java/lang/IndexOutOfBoundsException" Z9) ∨ (kk = 2 ∧ T7_refinance Z i k m "java/lang/IllegalArgumentException" Z9) ∨ (kk = 3 ∧ T7_refinance Z i k m "java/lang/IllegalStateException" Z9)
theorem T7_refinance_E {Z Z9 : CZ} {i : Int} {k : Int} {m : Int} {E9 : String} (h : T7_refinance Z i k m E9 Z9) : E9 = "java/lang/IndexOutOfBoundsException" ∨ E9 = "java/lang/IllegalArgumentException" ∨ E9 = "java/lang/IllegalStateException" := by
  obtain ⟨f0, -⟩ := h
  first | exact f0.imp (fun q => q.1) (Or.imp (fun q => q.1) (fun q => q.1))
set_option maxHeartbeats 1000000 in
set_option maxRecDepth 100000 in
theorem kL_refinance (l : Launch) (X : KX) (cJ : ClassId) (kS : Nat → Nat) (hst : l.stackTraces = false) (ad pa pb qa qb ra rb : Nat → Nat) (ha hb : Nat → Nat → Nat) (Z : CZ) (Y : RZ) (hS : SIM Z Y) (i : Int) (k : Int) (m : Int) (hi9 : i32 i) (hk9 : i32 k) (hm99 : i32 m) (oa : Nat) (g : Nat → Int64) : CL l X cJ kS yL_refinance wsL_refinance ({ frames := 8, cells := 4, slots := 24, locals := 148 }) [.ref (ad 0), .int (iI i), .int (iI k), .int (iI m), .ref oa] ((clB X ad pa pb qa qb ra rb ha hb Z).flatten ++ [arJ cJ oa 1 g]) (fun v9 w9 => ∃ (kk : Int) (Z9 : CZ) (g9 : Nat → Int64), W7_refinance Z i k m kk Z9 g9 ∧ v9 = some (.int (iI kk)) ∧ w9 = (clB X ad pa pb qa qb ra rb ha hb Z9).flatten ++ [arJ cJ oa 1 g9]) 4 24 := by
  refine lo_enterL (cc := cL_refinance) (maxL := 6) (ret := some .int) (hh := [(0, 12, 15, 24), (0, 12, 19, 13), (0, 12, 23, 19)]) (lv := [(0, .ref (ad 0)), (1, .int (iI i)), (2, .int (iI k)), (3, .int (iI m)), (4, .ref oa)]) (by decide) rfl rfl (Nat.le_of_ble_eq_true rfl) ?_
  intro p9 e9 s9 m9 bl9 me9 c9 A9 ls hA E hr hlocks hK hl hw hV hT hJ
  have Ex := E.1
  have Eb := E.2.1
  refine lv_aload Ex Eb dL_refinance_0 (lv_at hl 4 rfl) ?_
  refine lv_iconst (v := iI 0) Ex Eb dL_refinance_2 rfl ?_
  refine lv_aload_n Ex Eb dL_refinance_3 rfl (lv_at hl 0 rfl) ?_
  refine lv_iload_n Ex Eb dL_refinance_4 rfl (lv_at hl 1 rfl) ?_
  refine lv_iload_n Ex Eb dL_refinance_5 rfl (lv_at hl 2 rfl) ?_
  refine lv_iload_n Ex Eb dL_refinance_6 rfl (lv_at hl 3 rfl) ?_
  refine lo_callVT (q0 := 0) (rest := [.int (iI 0), .ref oa]) E hK hw hV (vX7_refinance l X kS hst ad pa pb qa qb ra rb ha hb Z Y hS i k m hi9 hk9 hm99) (cwV 3 E.2.2.2.2 gL_refinance_X7_refinance rfl rfl rfl (by decide +kernel) ⟨Nat.le_of_ble_eq_true rfl, Nat.le_of_ble_eq_true rfl⟩) rfl rfl (List.range' 0 145) (lo_ps_hd clB_n) (by decide +kernel) hl.1 rfl rfl (Nat.le_of_ble_eq_true rfl) dL_refinance_7 ⟨Nat.le_of_ble_eq_true rfl, Nat.le_of_ble_eq_true rfl⟩ (fun E9 ce9 q9 w1 H locs hq hw hx1 hx2 hx3 => ?_) (fun v w1 H locs hq hw => ?_)
  · obtain ⟨Z9, hT7, rfl⟩ := hq
    have hw : lo_Wd X ((clB X ad pa pb qa qb ra rb ha hb Z9).flatten ++ [arJ cJ oa 1 g]) A9 s9.heap H locs := lo_cast (lo_sets_hd clB_n clB_n) hw
    rcases T7_refinance_E hT7 with rfl | rfl | rfl
    · refine lo_catch (name := "java/lang/IndexOutOfBoundsException") E [] (exE (0, 12, 15, 24)) [exE (0, 12, 19, 13), exE (0, 12, 23, 19)] (hT.trans rfl) (pass0 ) rfl (by decide) (E.2.2.2.2 _ (List.mem_of_getElem? (i := 1) rfl)) (hV.2.2.2.2.2.2.2 _ (List.mem_of_getElem? (i := 5) rfl)) hx1 hx2 hx3 ?_
      refine W.eq (g2 := F0 m9 15 ls [.ref q9]) rfl ?_
      refine lv_astore (lv' := [(5, .ref q9), (0, .ref (ad 0)), (1, .int (iI i)), (2, .int (iI k)), (3, .int (iI m)), (4, .ref oa)]) Ex Eb dL_refinance_15 hl (by decide) rfl (fun ls hl => ?_)
      refine lv_iconst (v := iI 1) Ex Eb dL_refinance_17 rfl ?_
      exact lo_iret E hr hlocks hK hA hw dL_refinance_18 rfl ⟨1, Z9, g, Or.inr (Or.inl ⟨rfl, hT7⟩), rfl, rfl⟩
    · refine lo_catch (name := "java/lang/IllegalArgumentException") E [exE (0, 12, 15, 24)] (exE (0, 12, 19, 13)) [exE (0, 12, 23, 19)] (hT.trans rfl) (pass1 (Or.inr ⟨by decide, "java/lang/IndexOutOfBoundsException", E.2.2.2.2 _ (List.mem_of_getElem? (i := 1) rfl), hJ.2.2.2⟩)) rfl (by decide) (E.2.2.2.2 _ (List.mem_of_getElem? (i := 2) rfl)) (hV.2.2.2.2.2.2.2 _ (List.mem_of_getElem? (i := 3) rfl)) hx1 hx2 hx3 ?_
      refine W.eq (g2 := F0 m9 19 ls [.ref q9]) rfl ?_
      refine lv_astore (lv' := [(5, .ref q9), (0, .ref (ad 0)), (1, .int (iI i)), (2, .int (iI k)), (3, .int (iI m)), (4, .ref oa)]) Ex Eb dL_refinance_19 hl (by decide) rfl (fun ls hl => ?_)
      refine lv_iconst (v := iI 2) Ex Eb dL_refinance_21 rfl ?_
      exact lo_iret E hr hlocks hK hA hw dL_refinance_22 rfl ⟨2, Z9, g, Or.inr (Or.inr (Or.inl ⟨rfl, hT7⟩)), rfl, rfl⟩
    · refine lo_catch (name := "java/lang/IllegalStateException") E [exE (0, 12, 15, 24), exE (0, 12, 19, 13)] (exE (0, 12, 23, 19)) [] (hT.trans rfl) (pass2 (Or.inr ⟨by decide, "java/lang/IndexOutOfBoundsException", E.2.2.2.2 _ (List.mem_of_getElem? (i := 1) rfl), hJ.2.1⟩) (Or.inr ⟨by decide, "java/lang/IllegalArgumentException", E.2.2.2.2 _ (List.mem_of_getElem? (i := 2) rfl), hJ.2.2.1⟩)) rfl (by decide) (E.2.2.2.2 _ (List.mem_of_getElem? (i := 3) rfl)) (hV.2.2.2.2.2.2.2 _ (List.mem_of_getElem? (i := 4) rfl)) hx1 hx2 hx3 ?_
      refine W.eq (g2 := F0 m9 23 ls [.ref q9]) rfl ?_
      refine lv_astore (lv' := [(5, .ref q9), (0, .ref (ad 0)), (1, .int (iI i)), (2, .int (iI k)), (3, .int (iI m)), (4, .ref oa)]) Ex Eb dL_refinance_23 hl (by decide) rfl (fun ls hl => ?_)
      refine lv_iconst (v := iI 3) Ex Eb dL_refinance_25 rfl ?_
      exact lo_iret E hr hlocks hK hA hw dL_refinance_26 rfl ⟨3, Z9, g, Or.inr (Or.inr (Or.inr (⟨rfl, hT7⟩))), rfl, rfl⟩
  · obtain ⟨zz, Z9, hF, rfl, rfl⟩ := hq
    have hw : lo_Wd X ((clB X ad pa pb qa qb ra rb ha hb Z9).flatten ++ [arJ cJ oa 1 g]) A9 s9.heap H locs := lo_cast (lo_sets_hd clB_n clB_n) hw
    refine W.eq (g2 := F0 m9 10 ls [.int (iI zz), .int (iI 0), .ref oa]) rfl ?_
    refine lv_i2l Ex Eb dL_refinance_10 rfl ?_
    refine lo_last E hJ hw 145 rfl dL_refinance_11 (fun H locs f hf hw => ?_)
    refine lv_goto Ex Eb dL_refinance_12 rfl ?_
    have hw : lo_Wd X ((clB X ad pa pb qa qb ra rb ha hb Z9).flatten ++ [arJ cJ oa 1 f]) A9 s9.heap H locs := hw
    refine lv_iconst (v := iI 0) Ex Eb dL_refinance_27 rfl ?_
    exact lo_iret E hr hlocks hK hA hw dL_refinance_28 rfl ⟨0, Z9, f, Or.inl ⟨rfl, zz, hF, hf⟩, rfl, rfl⟩
def W7_spendExtra (Z : CZ) (k : Int) (kk : Int) (Z9 : CZ) (g9 : Nat → Int64) : Prop := (kk = 0 ∧ ∃ zz : Int, F7_spendExtra Z k zz Z9 ∧ g9 0 = (iI zz).toInt64) ∨ (kk = 1 ∧ T7_spendExtra Z k "java/lang/IllegalArgumentException" Z9)
theorem T7_spendExtra_E {Z Z9 : CZ} {k : Int} {E9 : String} (h : T7_spendExtra Z k E9 Z9) : E9 = "java/lang/IllegalArgumentException" := by
  obtain ⟨f0, -⟩ := h
  first | exact f0 | exact f0.1
set_option maxHeartbeats 1000000 in
set_option maxRecDepth 100000 in
theorem kL_spendExtra (l : Launch) (X : KX) (cJ : ClassId) (kS : Nat → Nat) (hst : l.stackTraces = false) (ad pa pb qa qb ra rb : Nat → Nat) (ha hb : Nat → Nat → Nat) (Z : CZ) (Y : RZ) (hS : SIM Z Y) (k : Int) (hk9 : i32 k) (oa : Nat) (g : Nat → Int64) : CL l X cJ kS yL_spendExtra wsL_spendExtra ({ frames := 8, cells := 1, slots := 6, locals := 153 }) [.ref (ad 0), .int (iI k), .ref oa] ((clB X ad pa pb qa qb ra rb ha hb Z).flatten ++ [arJ cJ oa 1 g]) (fun v9 w9 => ∃ (kk : Int) (Z9 : CZ) (g9 : Nat → Int64), W7_spendExtra Z k kk Z9 g9 ∧ v9 = some (.int (iI kk)) ∧ w9 = (clB X ad pa pb qa qb ra rb ha hb Z9).flatten ++ [arJ cJ oa 1 g9]) 1 6 := by
  refine lo_enterL (cc := cL_spendExtra) (maxL := 4) (ret := some .int) (hh := [(0, 9, 12, 13)]) (lv := [(0, .ref (ad 0)), (1, .int (iI k)), (2, .ref oa)]) (by decide) rfl rfl (Nat.le_of_ble_eq_true rfl) ?_
  intro p9 e9 s9 m9 bl9 me9 c9 A9 ls hA E hr hlocks hK hl hw hV hT hJ
  have Ex := E.1
  have Eb := E.2.1
  refine lv_aload_n Ex Eb dL_spendExtra_0 rfl (lv_at hl 2 rfl) ?_
  refine lv_iconst (v := iI 0) Ex Eb dL_spendExtra_1 rfl ?_
  refine lv_aload_n Ex Eb dL_spendExtra_2 rfl (lv_at hl 0 rfl) ?_
  refine lv_iload_n Ex Eb dL_spendExtra_3 rfl (lv_at hl 1 rfl) ?_
  refine lo_callVT (q0 := 0) (rest := [.int (iI 0), .ref oa]) E hK hw hV (vX7_spendExtra l X kS hst ad pa pb qa qb ra rb ha hb Z Y hS k hk9) (cwV 1 E.2.2.2.2 gL_spendExtra_X7_spendExtra rfl rfl rfl (by decide +kernel) ⟨Nat.le_of_ble_eq_true rfl, Nat.le_of_ble_eq_true rfl⟩) rfl rfl (List.range' 0 145) (lo_ps_hd clB_n) (by decide +kernel) hl.1 rfl rfl (Nat.le_of_ble_eq_true rfl) dL_spendExtra_4 ⟨Nat.le_of_ble_eq_true rfl, Nat.le_of_ble_eq_true rfl⟩ (fun E9 ce9 q9 w1 H locs hq hw hx1 hx2 hx3 => ?_) (fun v w1 H locs hq hw => ?_)
  · obtain ⟨Z9, hT7, rfl⟩ := hq
    have hw : lo_Wd X ((clB X ad pa pb qa qb ra rb ha hb Z9).flatten ++ [arJ cJ oa 1 g]) A9 s9.heap H locs := lo_cast (lo_sets_hd clB_n clB_n) hw
    rcases T7_spendExtra_E hT7 with rfl
    · refine lo_catch (name := "java/lang/IllegalArgumentException") E [] (exE (0, 9, 12, 13)) [] (hT.trans rfl) (pass0 ) rfl (by decide) (E.2.2.2.2 _ (List.mem_of_getElem? (i := 1) rfl)) (hV.2.2.2.2.2.2.2 _ (List.mem_of_getElem? (i := 3) rfl)) hx1 hx2 hx3 ?_
      refine W.eq (g2 := F0 m9 12 ls [.ref q9]) rfl ?_
      refine lv_astore_n (lv' := [(3, .ref q9), (0, .ref (ad 0)), (1, .int (iI k)), (2, .ref oa)]) Ex Eb dL_spendExtra_12 rfl hl (by decide) rfl (fun ls hl => ?_)
      refine lv_iconst (v := iI 1) Ex Eb dL_spendExtra_13 rfl ?_
      exact lo_iret E hr hlocks hK hA hw dL_spendExtra_14 rfl ⟨1, Z9, g, Or.inr (⟨rfl, hT7⟩), rfl, rfl⟩
  · obtain ⟨zz, Z9, hF, rfl, rfl⟩ := hq
    have hw : lo_Wd X ((clB X ad pa pb qa qb ra rb ha hb Z9).flatten ++ [arJ cJ oa 1 g]) A9 s9.heap H locs := lo_cast (lo_sets_hd clB_n clB_n) hw
    refine W.eq (g2 := F0 m9 7 ls [.int (iI zz), .int (iI 0), .ref oa]) rfl ?_
    refine lv_i2l Ex Eb dL_spendExtra_7 rfl ?_
    refine lo_last E hJ hw 145 rfl dL_spendExtra_8 (fun H locs f hf hw => ?_)
    refine lv_goto Ex Eb dL_spendExtra_9 rfl ?_
    have hw : lo_Wd X ((clB X ad pa pb qa qb ra rb ha hb Z9).flatten ++ [arJ cJ oa 1 f]) A9 s9.heap H locs := hw
    refine lv_iconst (v := iI 0) Ex Eb dL_spendExtra_15 rfl ?_
    exact lo_iret E hr hlocks hK hA hw dL_spendExtra_16 rfl ⟨0, Z9, f, Or.inl ⟨rfl, zz, hF, hf⟩, rfl, rfl⟩
def W7_restoreSnapshot (Z : CZ) (kk : Int) (Z9 : CZ) (g9 : Nat → Int64) : Prop := (kk = 0 ∧ ∃ zz : Int, F7_restoreSnapshot Z zz Z9 ∧ g9 0 = (iI zz).toInt64) ∨ (kk = 1 ∧ T7_restoreSnapshot Z "java/util/NoSuchElementException" Z9)
theorem T7_restoreSnapshot_E {Z Z9 : CZ} {E9 : String} (h : T7_restoreSnapshot Z E9 Z9) : E9 = "java/util/NoSuchElementException" := by
  obtain ⟨f0, f1, -⟩ := h
  first | exact f0 | exact f0.1
set_option maxHeartbeats 1000000 in
set_option maxRecDepth 100000 in
theorem kL_restoreSnapshot (l : Launch) (X : KX) (cJ : ClassId) (kS : Nat → Nat) (hst : l.stackTraces = false) (ad pa pb qa qb ra rb : Nat → Nat) (ha hb : Nat → Nat → Nat) (Z : CZ) (Y : RZ) (hS : SIM Z Y) (oa : Nat) (g : Nat → Int64) : CL l X cJ kS yL_restoreSnapshot wsL_restoreSnapshot ({ frames := 7, cells := 1, slots := 6, locals := 123 }) [.ref (ad 0), .ref oa] ((clB X ad pa pb qa qb ra rb ha hb Z).flatten ++ [arJ cJ oa 1 g]) (fun v9 w9 => ∃ (kk : Int) (Z9 : CZ) (g9 : Nat → Int64), W7_restoreSnapshot Z kk Z9 g9 ∧ v9 = some (.int (iI kk)) ∧ w9 = (clB X ad pa pb qa qb ra rb ha hb Z9).flatten ++ [arJ cJ oa 1 g9]) 1 6 := by
  refine lo_enterL (cc := cL_restoreSnapshot) (maxL := 3) (ret := some .int) (hh := [(0, 8, 11, 50)]) (lv := [(0, .ref (ad 0)), (1, .ref oa)]) (by decide) rfl rfl (Nat.le_of_ble_eq_true rfl) ?_
  intro p9 e9 s9 m9 bl9 me9 c9 A9 ls hA E hr hlocks hK hl hw hV hT hJ
  have Ex := E.1
  have Eb := E.2.1
  refine lv_aload_n Ex Eb dL_restoreSnapshot_0 rfl (lv_at hl 1 rfl) ?_
  refine lv_iconst (v := iI 0) Ex Eb dL_restoreSnapshot_1 rfl ?_
  refine lv_aload_n Ex Eb dL_restoreSnapshot_2 rfl (lv_at hl 0 rfl) ?_
  refine lo_callVT (q0 := 0) (rest := [.int (iI 0), .ref oa]) E hK hw hV (vX7_restoreSnapshot l X kS hst ad pa pb qa qb ra rb ha hb Z Y hS) (cwV 0 E.2.2.2.2 gL_restoreSnapshot_X7_restoreSnapshot rfl rfl rfl (by decide +kernel) ⟨Nat.le_of_ble_eq_true rfl, Nat.le_of_ble_eq_true rfl⟩) rfl rfl (List.range' 0 145) (lo_ps_hd clB_n) (by decide +kernel) hl.1 rfl rfl (Nat.le_of_ble_eq_true rfl) dL_restoreSnapshot_3 ⟨Nat.le_of_ble_eq_true rfl, Nat.le_of_ble_eq_true rfl⟩ (fun E9 ce9 q9 w1 H locs hq hw hx1 hx2 hx3 => ?_) (fun v w1 H locs hq hw => ?_)
  · obtain ⟨Z9, hT7, rfl⟩ := hq
    have hw : lo_Wd X ((clB X ad pa pb qa qb ra rb ha hb Z9).flatten ++ [arJ cJ oa 1 g]) A9 s9.heap H locs := lo_cast (lo_sets_hd clB_n clB_n) hw
    rcases T7_restoreSnapshot_E hT7 with rfl
    · refine lo_catch (name := "java/util/NoSuchElementException") E [] (exE (0, 8, 11, 50)) [] (hT.trans rfl) (pass0 ) rfl (by decide) (E.2.2.2.2 _ (List.mem_of_getElem? (i := 1) rfl)) (hV.2.2.2.2.2.2.2 _ (List.mem_of_getElem? (i := 6) rfl)) hx1 hx2 hx3 ?_
      refine W.eq (g2 := F0 m9 11 ls [.ref q9]) rfl ?_
      refine lv_astore_n (lv' := [(2, .ref q9), (0, .ref (ad 0)), (1, .ref oa)]) Ex Eb dL_restoreSnapshot_11 rfl hl (by decide) rfl (fun ls hl => ?_)
      refine lv_iconst (v := iI 1) Ex Eb dL_restoreSnapshot_12 rfl ?_
      exact lo_iret E hr hlocks hK hA hw dL_restoreSnapshot_13 rfl ⟨1, Z9, g, Or.inr (⟨rfl, hT7⟩), rfl, rfl⟩
  · obtain ⟨zz, Z9, hF, rfl, rfl⟩ := hq
    have hw : lo_Wd X ((clB X ad pa pb qa qb ra rb ha hb Z9).flatten ++ [arJ cJ oa 1 g]) A9 s9.heap H locs := lo_cast (lo_sets_hd clB_n clB_n) hw
    refine W.eq (g2 := F0 m9 6 ls [.int (iI zz), .int (iI 0), .ref oa]) rfl ?_
    refine lv_i2l Ex Eb dL_restoreSnapshot_6 rfl ?_
    refine lo_last E hJ hw 145 rfl dL_restoreSnapshot_7 (fun H locs f hf hw => ?_)
    refine lv_goto Ex Eb dL_restoreSnapshot_8 rfl ?_
    have hw : lo_Wd X ((clB X ad pa pb qa qb ra rb ha hb Z9).flatten ++ [arJ cJ oa 1 f]) A9 s9.heap H locs := hw
    refine lv_iconst (v := iI 0) Ex Eb dL_restoreSnapshot_14 rfl ?_
    exact lo_iret E hr hlocks hK hA hw dL_restoreSnapshot_15 rfl ⟨0, Z9, f, Or.inl ⟨rfl, zz, hF, hf⟩, rfl, rfl⟩
def W7_isOpen (Z : CZ) (i : Int) (kk : Int) (Z9 : CZ) (g9 : Nat → Int64) : Prop := (kk = 0 ∧ ∃ zz : Int, F7_isOpen Z i zz Z9 ∧ g9 0 = bL zz) ∨ (kk = 1 ∧ T7_isOpen Z i "java/lang/IndexOutOfBoundsException" Z9)
theorem T7_isOpen_E {Z Z9 : CZ} {i : Int} {E9 : String} (h : T7_isOpen Z i E9 Z9) : E9 = "java/lang/IndexOutOfBoundsException" := by
  obtain ⟨f0, f1, -⟩ := h
  first | exact f0 | exact f0.1
set_option maxHeartbeats 1000000 in
set_option maxRecDepth 100000 in
theorem kL_isOpen (l : Launch) (X : KX) (cJ : ClassId) (kS : Nat → Nat) (hst : l.stackTraces = false) (ad pa pb qa qb ra rb : Nat → Nat) (ha hb : Nat → Nat → Nat) (Z : CZ) (Y : RZ) (hS : SIM Z Y) (i : Int) (hi9 : i32 i) (oa : Nat) (g : Nat → Int64) : CL l X cJ kS yL_isOpen wsL_isOpen ({ frames := 8, cells := 1, slots := 6, locals := 142 }) [.ref (ad 0), .int (iI i), .ref oa] ((clB X ad pa pb qa qb ra rb ha hb Z).flatten ++ [arJ cJ oa 1 g]) (fun v9 w9 => ∃ (kk : Int) (Z9 : CZ) (g9 : Nat → Int64), W7_isOpen Z i kk Z9 g9 ∧ v9 = some (.int (iI kk)) ∧ w9 = (clB X ad pa pb qa qb ra rb ha hb Z9).flatten ++ [arJ cJ oa 1 g9]) 1 6 := by
  refine lo_enterL (cc := cL_isOpen) (maxL := 4) (ret := some .int) (hh := [(0, 16, 19, 24)]) (lv := [(0, .ref (ad 0)), (1, .int (iI i)), (2, .ref oa)]) (by decide) rfl rfl (Nat.le_of_ble_eq_true rfl) ?_
  intro p9 e9 s9 m9 bl9 me9 c9 A9 ls hA E hr hlocks hK hl hw hV hT hJ
  have Ex := E.1
  have Eb := E.2.1
  refine lv_aload_n Ex Eb dL_isOpen_0 rfl (lv_at hl 2 rfl) ?_
  refine lv_iconst (v := iI 0) Ex Eb dL_isOpen_1 rfl ?_
  refine lv_aload_n Ex Eb dL_isOpen_2 rfl (lv_at hl 0 rfl) ?_
  refine lv_iload_n Ex Eb dL_isOpen_3 rfl (lv_at hl 1 rfl) ?_
  refine lo_callVT (q0 := 0) (rest := [.int (iI 0), .ref oa]) E hK hw hV (vX7_isOpen l X kS hst ad pa pb qa qb ra rb ha hb Z Y hS i hi9) (cwV 1 E.2.2.2.2 gL_isOpen_X7_isOpen rfl rfl rfl (by decide +kernel) ⟨Nat.le_of_ble_eq_true rfl, Nat.le_of_ble_eq_true rfl⟩) rfl rfl (List.range' 0 145) (lo_ps_hd clB_n) (by decide +kernel) hl.1 rfl rfl (Nat.le_of_ble_eq_true rfl) dL_isOpen_4 ⟨Nat.le_of_ble_eq_true rfl, Nat.le_of_ble_eq_true rfl⟩ (fun E9 ce9 q9 w1 H locs hq hw hx1 hx2 hx3 => ?_) (fun v w1 H locs hq hw => ?_)
  · obtain ⟨Z9, hT7, rfl⟩ := hq
    have hw : lo_Wd X ((clB X ad pa pb qa qb ra rb ha hb Z9).flatten ++ [arJ cJ oa 1 g]) A9 s9.heap H locs := lo_cast (lo_sets_hd clB_n clB_n) hw
    rcases T7_isOpen_E hT7 with rfl
    · refine lo_catch (name := "java/lang/IndexOutOfBoundsException") E [] (exE (0, 16, 19, 24)) [] (hT.trans rfl) (pass0 ) rfl (by decide) (E.2.2.2.2 _ (List.mem_of_getElem? (i := 1) rfl)) (hV.2.2.2.2.2.2.2 _ (List.mem_of_getElem? (i := 5) rfl)) hx1 hx2 hx3 ?_
      refine W.eq (g2 := F0 m9 19 ls [.ref q9]) rfl ?_
      refine lv_astore_n (lv' := [(3, .ref q9), (0, .ref (ad 0)), (1, .int (iI i)), (2, .ref oa)]) Ex Eb dL_isOpen_19 rfl hl (by decide) rfl (fun ls hl => ?_)
      refine lv_iconst (v := iI 1) Ex Eb dL_isOpen_20 rfl ?_
      exact lo_iret E hr hlocks hK hA hw dL_isOpen_21 rfl ⟨1, Z9, g, Or.inr (⟨rfl, hT7⟩), rfl, rfl⟩
  · obtain ⟨zz, Z9, hF, rfl, rfl⟩ := hq
    have hw : lo_Wd X ((clB X ad pa pb qa qb ra rb ha hb Z9).flatten ++ [arJ cJ oa 1 g]) A9 s9.heap H locs := lo_cast (lo_sets_hd clB_n clB_n) hw
    refine W.eq (g2 := F0 m9 7 ls [.int (iI zz), .int (iI 0), .ref oa]) rfl ?_
    refine lv_if_eq (tgt := 14) Ex Eb dL_isOpen_7 rfl (fun hz => ?_) (fun hz => ?_)
    · refine lv_lconst (v := iL 0) Ex Eb dL_isOpen_14 rfl ?_
      refine lo_last E hJ hw 145 rfl dL_isOpen_15 (fun H locs f hf hw => ?_)
      refine lv_goto Ex Eb dL_isOpen_16 rfl ?_
      have hw : lo_Wd X ((clB X ad pa pb qa qb ra rb ha hb Z9).flatten ++ [arJ cJ oa 1 f]) A9 s9.heap H locs := hw
      refine lv_iconst (v := iI 0) Ex Eb dL_isOpen_22 rfl ?_
      exact lo_iret E hr hlocks hK hA hw dL_isOpen_23 rfl ⟨0, Z9, f, Or.inl ⟨rfl, zz, hF, hf.trans (if_pos hz).symm⟩, rfl, rfl⟩
    · refine lv_lconst (v := iL 1) Ex Eb dL_isOpen_10 rfl ?_
      refine lv_goto Ex Eb dL_isOpen_11 rfl ?_
      refine lo_last E hJ hw 145 rfl dL_isOpen_15 (fun H locs f hf hw => ?_)
      refine lv_goto Ex Eb dL_isOpen_16 rfl ?_
      have hw : lo_Wd X ((clB X ad pa pb qa qb ra rb ha hb Z9).flatten ++ [arJ cJ oa 1 f]) A9 s9.heap H locs := hw
      refine lv_iconst (v := iI 0) Ex Eb dL_isOpen_22 rfl ?_
      exact lo_iret E hr hlocks hK hA hw dL_isOpen_23 rfl ⟨0, Z9, f, Or.inl ⟨rfl, zz, hF, hf.trans (if_neg hz).symm⟩, rfl, rfl⟩
def W7_principal (Z : CZ) (i : Int) (kk : Int) (Z9 : CZ) (g9 : Nat → Int64) : Prop := (kk = 0 ∧ ∃ zz : Int, F7_principal Z i zz Z9 ∧ g9 0 = (iI zz).toInt64) ∨ (kk = 1 ∧ T7_principal Z i "java/lang/IndexOutOfBoundsException" Z9)
theorem T7_principal_E {Z Z9 : CZ} {i : Int} {E9 : String} (h : T7_principal Z i E9 Z9) : E9 = "java/lang/IndexOutOfBoundsException" := by
  obtain ⟨f0, f1, -⟩ := h
  first | exact f0 | exact f0.1
set_option maxHeartbeats 1000000 in
set_option maxRecDepth 100000 in
theorem kL_principal (l : Launch) (X : KX) (cJ : ClassId) (kS : Nat → Nat) (hst : l.stackTraces = false) (ad pa pb qa qb ra rb : Nat → Nat) (ha hb : Nat → Nat → Nat) (Z : CZ) (Y : RZ) (hS : SIM Z Y) (i : Int) (hi9 : i32 i) (oa : Nat) (g : Nat → Int64) : CL l X cJ kS yL_principal wsL_principal ({ frames := 8, cells := 1, slots := 6, locals := 142 }) [.ref (ad 0), .int (iI i), .ref oa] ((clB X ad pa pb qa qb ra rb ha hb Z).flatten ++ [arJ cJ oa 1 g]) (fun v9 w9 => ∃ (kk : Int) (Z9 : CZ) (g9 : Nat → Int64), W7_principal Z i kk Z9 g9 ∧ v9 = some (.int (iI kk)) ∧ w9 = (clB X ad pa pb qa qb ra rb ha hb Z9).flatten ++ [arJ cJ oa 1 g9]) 1 6 := by
  refine lo_enterL (cc := cL_principal) (maxL := 4) (ret := some .int) (hh := [(0, 9, 12, 24)]) (lv := [(0, .ref (ad 0)), (1, .int (iI i)), (2, .ref oa)]) (by decide) rfl rfl (Nat.le_of_ble_eq_true rfl) ?_
  intro p9 e9 s9 m9 bl9 me9 c9 A9 ls hA E hr hlocks hK hl hw hV hT hJ
  have Ex := E.1
  have Eb := E.2.1
  refine lv_aload_n Ex Eb dL_principal_0 rfl (lv_at hl 2 rfl) ?_
  refine lv_iconst (v := iI 0) Ex Eb dL_principal_1 rfl ?_
  refine lv_aload_n Ex Eb dL_principal_2 rfl (lv_at hl 0 rfl) ?_
  refine lv_iload_n Ex Eb dL_principal_3 rfl (lv_at hl 1 rfl) ?_
  refine lo_callVT (q0 := 0) (rest := [.int (iI 0), .ref oa]) E hK hw hV (vX7_principal l X kS hst ad pa pb qa qb ra rb ha hb Z Y hS i hi9) (cwV 1 E.2.2.2.2 gL_principal_X7_principal rfl rfl rfl (by decide +kernel) ⟨Nat.le_of_ble_eq_true rfl, Nat.le_of_ble_eq_true rfl⟩) rfl rfl (List.range' 0 145) (lo_ps_hd clB_n) (by decide +kernel) hl.1 rfl rfl (Nat.le_of_ble_eq_true rfl) dL_principal_4 ⟨Nat.le_of_ble_eq_true rfl, Nat.le_of_ble_eq_true rfl⟩ (fun E9 ce9 q9 w1 H locs hq hw hx1 hx2 hx3 => ?_) (fun v w1 H locs hq hw => ?_)
  · obtain ⟨Z9, hT7, rfl⟩ := hq
    have hw : lo_Wd X ((clB X ad pa pb qa qb ra rb ha hb Z9).flatten ++ [arJ cJ oa 1 g]) A9 s9.heap H locs := lo_cast (lo_sets_hd clB_n clB_n) hw
    rcases T7_principal_E hT7 with rfl
    · refine lo_catch (name := "java/lang/IndexOutOfBoundsException") E [] (exE (0, 9, 12, 24)) [] (hT.trans rfl) (pass0 ) rfl (by decide) (E.2.2.2.2 _ (List.mem_of_getElem? (i := 1) rfl)) (hV.2.2.2.2.2.2.2 _ (List.mem_of_getElem? (i := 5) rfl)) hx1 hx2 hx3 ?_
      refine W.eq (g2 := F0 m9 12 ls [.ref q9]) rfl ?_
      refine lv_astore_n (lv' := [(3, .ref q9), (0, .ref (ad 0)), (1, .int (iI i)), (2, .ref oa)]) Ex Eb dL_principal_12 rfl hl (by decide) rfl (fun ls hl => ?_)
      refine lv_iconst (v := iI 1) Ex Eb dL_principal_13 rfl ?_
      exact lo_iret E hr hlocks hK hA hw dL_principal_14 rfl ⟨1, Z9, g, Or.inr (⟨rfl, hT7⟩), rfl, rfl⟩
  · obtain ⟨zz, Z9, hF, rfl, rfl⟩ := hq
    have hw : lo_Wd X ((clB X ad pa pb qa qb ra rb ha hb Z9).flatten ++ [arJ cJ oa 1 g]) A9 s9.heap H locs := lo_cast (lo_sets_hd clB_n clB_n) hw
    refine W.eq (g2 := F0 m9 7 ls [.int (iI zz), .int (iI 0), .ref oa]) rfl ?_
    refine lv_i2l Ex Eb dL_principal_7 rfl ?_
    refine lo_last E hJ hw 145 rfl dL_principal_8 (fun H locs f hf hw => ?_)
    refine lv_goto Ex Eb dL_principal_9 rfl ?_
    have hw : lo_Wd X ((clB X ad pa pb qa qb ra rb ha hb Z9).flatten ++ [arJ cJ oa 1 f]) A9 s9.heap H locs := hw
    refine lv_iconst (v := iI 0) Ex Eb dL_principal_15 rfl ?_
    exact lo_iret E hr hlocks hK hA hw dL_principal_16 rfl ⟨0, Z9, f, Or.inl ⟨rfl, zz, hF, hf⟩, rfl, rfl⟩
def W7_balance (Z : CZ) (i : Int) (kk : Int) (Z9 : CZ) (g9 : Nat → Int64) : Prop := (kk = 0 ∧ ∃ zz : Int, F7_balance Z i zz Z9 ∧ g9 0 = (iI zz).toInt64) ∨ (kk = 1 ∧ T7_balance Z i "java/lang/IndexOutOfBoundsException" Z9)
theorem T7_balance_E {Z Z9 : CZ} {i : Int} {E9 : String} (h : T7_balance Z i E9 Z9) : E9 = "java/lang/IndexOutOfBoundsException" := by
  obtain ⟨f0, f1, -⟩ := h
  first | exact f0 | exact f0.1
set_option maxHeartbeats 1000000 in
set_option maxRecDepth 100000 in
theorem kL_balance (l : Launch) (X : KX) (cJ : ClassId) (kS : Nat → Nat) (hst : l.stackTraces = false) (ad pa pb qa qb ra rb : Nat → Nat) (ha hb : Nat → Nat → Nat) (Z : CZ) (Y : RZ) (hS : SIM Z Y) (i : Int) (hi9 : i32 i) (oa : Nat) (g : Nat → Int64) : CL l X cJ kS yL_balance wsL_balance ({ frames := 8, cells := 1, slots := 6, locals := 142 }) [.ref (ad 0), .int (iI i), .ref oa] ((clB X ad pa pb qa qb ra rb ha hb Z).flatten ++ [arJ cJ oa 1 g]) (fun v9 w9 => ∃ (kk : Int) (Z9 : CZ) (g9 : Nat → Int64), W7_balance Z i kk Z9 g9 ∧ v9 = some (.int (iI kk)) ∧ w9 = (clB X ad pa pb qa qb ra rb ha hb Z9).flatten ++ [arJ cJ oa 1 g9]) 1 6 := by
  refine lo_enterL (cc := cL_balance) (maxL := 4) (ret := some .int) (hh := [(0, 9, 12, 24)]) (lv := [(0, .ref (ad 0)), (1, .int (iI i)), (2, .ref oa)]) (by decide) rfl rfl (Nat.le_of_ble_eq_true rfl) ?_
  intro p9 e9 s9 m9 bl9 me9 c9 A9 ls hA E hr hlocks hK hl hw hV hT hJ
  have Ex := E.1
  have Eb := E.2.1
  refine lv_aload_n Ex Eb dL_balance_0 rfl (lv_at hl 2 rfl) ?_
  refine lv_iconst (v := iI 0) Ex Eb dL_balance_1 rfl ?_
  refine lv_aload_n Ex Eb dL_balance_2 rfl (lv_at hl 0 rfl) ?_
  refine lv_iload_n Ex Eb dL_balance_3 rfl (lv_at hl 1 rfl) ?_
  refine lo_callVT (q0 := 0) (rest := [.int (iI 0), .ref oa]) E hK hw hV (vX7_balance l X kS hst ad pa pb qa qb ra rb ha hb Z Y hS i hi9) (cwV 1 E.2.2.2.2 gL_balance_X7_balance rfl rfl rfl (by decide +kernel) ⟨Nat.le_of_ble_eq_true rfl, Nat.le_of_ble_eq_true rfl⟩) rfl rfl (List.range' 0 145) (lo_ps_hd clB_n) (by decide +kernel) hl.1 rfl rfl (Nat.le_of_ble_eq_true rfl) dL_balance_4 ⟨Nat.le_of_ble_eq_true rfl, Nat.le_of_ble_eq_true rfl⟩ (fun E9 ce9 q9 w1 H locs hq hw hx1 hx2 hx3 => ?_) (fun v w1 H locs hq hw => ?_)
  · obtain ⟨Z9, hT7, rfl⟩ := hq
    have hw : lo_Wd X ((clB X ad pa pb qa qb ra rb ha hb Z9).flatten ++ [arJ cJ oa 1 g]) A9 s9.heap H locs := lo_cast (lo_sets_hd clB_n clB_n) hw
    rcases T7_balance_E hT7 with rfl
    · refine lo_catch (name := "java/lang/IndexOutOfBoundsException") E [] (exE (0, 9, 12, 24)) [] (hT.trans rfl) (pass0 ) rfl (by decide) (E.2.2.2.2 _ (List.mem_of_getElem? (i := 1) rfl)) (hV.2.2.2.2.2.2.2 _ (List.mem_of_getElem? (i := 5) rfl)) hx1 hx2 hx3 ?_
      refine W.eq (g2 := F0 m9 12 ls [.ref q9]) rfl ?_
      refine lv_astore_n (lv' := [(3, .ref q9), (0, .ref (ad 0)), (1, .int (iI i)), (2, .ref oa)]) Ex Eb dL_balance_12 rfl hl (by decide) rfl (fun ls hl => ?_)
      refine lv_iconst (v := iI 1) Ex Eb dL_balance_13 rfl ?_
      exact lo_iret E hr hlocks hK hA hw dL_balance_14 rfl ⟨1, Z9, g, Or.inr (⟨rfl, hT7⟩), rfl, rfl⟩
  · obtain ⟨zz, Z9, hF, rfl, rfl⟩ := hq
    have hw : lo_Wd X ((clB X ad pa pb qa qb ra rb ha hb Z9).flatten ++ [arJ cJ oa 1 g]) A9 s9.heap H locs := lo_cast (lo_sets_hd clB_n clB_n) hw
    refine W.eq (g2 := F0 m9 7 ls [.int (iI zz), .int (iI 0), .ref oa]) rfl ?_
    refine lv_i2l Ex Eb dL_balance_7 rfl ?_
    refine lo_last E hJ hw 145 rfl dL_balance_8 (fun H locs f hf hw => ?_)
    refine lv_goto Ex Eb dL_balance_9 rfl ?_
    have hw : lo_Wd X ((clB X ad pa pb qa qb ra rb ha hb Z9).flatten ++ [arJ cJ oa 1 f]) A9 s9.heap H locs := hw
    refine lv_iconst (v := iI 0) Ex Eb dL_balance_15 rfl ?_
    exact lo_iret E hr hlocks hK hA hw dL_balance_16 rfl ⟨0, Z9, f, Or.inl ⟨rfl, zz, hF, hf⟩, rfl, rfl⟩
def W7_rate (Z : CZ) (i : Int) (kk : Int) (Z9 : CZ) (g9 : Nat → Int64) : Prop := (kk = 0 ∧ ∃ zz : Int, F7_rate Z i zz Z9 ∧ g9 0 = (iI zz).toInt64) ∨ (kk = 1 ∧ T7_rate Z i "java/lang/IndexOutOfBoundsException" Z9)
theorem T7_rate_E {Z Z9 : CZ} {i : Int} {E9 : String} (h : T7_rate Z i E9 Z9) : E9 = "java/lang/IndexOutOfBoundsException" := by
  obtain ⟨f0, f1, -⟩ := h
  first | exact f0 | exact f0.1
set_option maxHeartbeats 1000000 in
set_option maxRecDepth 100000 in
theorem kL_rate (l : Launch) (X : KX) (cJ : ClassId) (kS : Nat → Nat) (hst : l.stackTraces = false) (ad pa pb qa qb ra rb : Nat → Nat) (ha hb : Nat → Nat → Nat) (Z : CZ) (Y : RZ) (hS : SIM Z Y) (i : Int) (hi9 : i32 i) (oa : Nat) (g : Nat → Int64) : CL l X cJ kS yL_rate wsL_rate ({ frames := 8, cells := 1, slots := 6, locals := 142 }) [.ref (ad 0), .int (iI i), .ref oa] ((clB X ad pa pb qa qb ra rb ha hb Z).flatten ++ [arJ cJ oa 1 g]) (fun v9 w9 => ∃ (kk : Int) (Z9 : CZ) (g9 : Nat → Int64), W7_rate Z i kk Z9 g9 ∧ v9 = some (.int (iI kk)) ∧ w9 = (clB X ad pa pb qa qb ra rb ha hb Z9).flatten ++ [arJ cJ oa 1 g9]) 1 6 := by
  refine lo_enterL (cc := cL_rate) (maxL := 4) (ret := some .int) (hh := [(0, 9, 12, 24)]) (lv := [(0, .ref (ad 0)), (1, .int (iI i)), (2, .ref oa)]) (by decide) rfl rfl (Nat.le_of_ble_eq_true rfl) ?_
  intro p9 e9 s9 m9 bl9 me9 c9 A9 ls hA E hr hlocks hK hl hw hV hT hJ
  have Ex := E.1
  have Eb := E.2.1
  refine lv_aload_n Ex Eb dL_rate_0 rfl (lv_at hl 2 rfl) ?_
  refine lv_iconst (v := iI 0) Ex Eb dL_rate_1 rfl ?_
  refine lv_aload_n Ex Eb dL_rate_2 rfl (lv_at hl 0 rfl) ?_
  refine lv_iload_n Ex Eb dL_rate_3 rfl (lv_at hl 1 rfl) ?_
  refine lo_callVT (q0 := 0) (rest := [.int (iI 0), .ref oa]) E hK hw hV (vX7_rate l X kS hst ad pa pb qa qb ra rb ha hb Z Y hS i hi9) (cwV 1 E.2.2.2.2 gL_rate_X7_rate rfl rfl rfl (by decide +kernel) ⟨Nat.le_of_ble_eq_true rfl, Nat.le_of_ble_eq_true rfl⟩) rfl rfl (List.range' 0 145) (lo_ps_hd clB_n) (by decide +kernel) hl.1 rfl rfl (Nat.le_of_ble_eq_true rfl) dL_rate_4 ⟨Nat.le_of_ble_eq_true rfl, Nat.le_of_ble_eq_true rfl⟩ (fun E9 ce9 q9 w1 H locs hq hw hx1 hx2 hx3 => ?_) (fun v w1 H locs hq hw => ?_)
  · obtain ⟨Z9, hT7, rfl⟩ := hq
    have hw : lo_Wd X ((clB X ad pa pb qa qb ra rb ha hb Z9).flatten ++ [arJ cJ oa 1 g]) A9 s9.heap H locs := lo_cast (lo_sets_hd clB_n clB_n) hw
    rcases T7_rate_E hT7 with rfl
    · refine lo_catch (name := "java/lang/IndexOutOfBoundsException") E [] (exE (0, 9, 12, 24)) [] (hT.trans rfl) (pass0 ) rfl (by decide) (E.2.2.2.2 _ (List.mem_of_getElem? (i := 1) rfl)) (hV.2.2.2.2.2.2.2 _ (List.mem_of_getElem? (i := 5) rfl)) hx1 hx2 hx3 ?_
      refine W.eq (g2 := F0 m9 12 ls [.ref q9]) rfl ?_
      refine lv_astore_n (lv' := [(3, .ref q9), (0, .ref (ad 0)), (1, .int (iI i)), (2, .ref oa)]) Ex Eb dL_rate_12 rfl hl (by decide) rfl (fun ls hl => ?_)
      refine lv_iconst (v := iI 1) Ex Eb dL_rate_13 rfl ?_
      exact lo_iret E hr hlocks hK hA hw dL_rate_14 rfl ⟨1, Z9, g, Or.inr (⟨rfl, hT7⟩), rfl, rfl⟩
  · obtain ⟨zz, Z9, hF, rfl, rfl⟩ := hq
    have hw : lo_Wd X ((clB X ad pa pb qa qb ra rb ha hb Z9).flatten ++ [arJ cJ oa 1 g]) A9 s9.heap H locs := lo_cast (lo_sets_hd clB_n clB_n) hw
    refine W.eq (g2 := F0 m9 7 ls [.int (iI zz), .int (iI 0), .ref oa]) rfl ?_
    refine lv_i2l Ex Eb dL_rate_7 rfl ?_
    refine lo_last E hJ hw 145 rfl dL_rate_8 (fun H locs f hf hw => ?_)
    refine lv_goto Ex Eb dL_rate_9 rfl ?_
    have hw : lo_Wd X ((clB X ad pa pb qa qb ra rb ha hb Z9).flatten ++ [arJ cJ oa 1 f]) A9 s9.heap H locs := hw
    refine lv_iconst (v := iI 0) Ex Eb dL_rate_15 rfl ?_
    exact lo_iret E hr hlocks hK hA hw dL_rate_16 rfl ⟨0, Z9, f, Or.inl ⟨rfl, zz, hF, hf⟩, rfl, rfl⟩
def W7_monthsLeft (Z : CZ) (i : Int) (kk : Int) (Z9 : CZ) (g9 : Nat → Int64) : Prop := (kk = 0 ∧ ∃ zz : Int, F7_monthsLeft Z i zz Z9 ∧ g9 0 = (iI zz).toInt64) ∨ (kk = 1 ∧ T7_monthsLeft Z i "java/lang/IndexOutOfBoundsException" Z9)
theorem T7_monthsLeft_E {Z Z9 : CZ} {i : Int} {E9 : String} (h : T7_monthsLeft Z i E9 Z9) : E9 = "java/lang/IndexOutOfBoundsException" := by
  obtain ⟨f0, f1, -⟩ := h
  first | exact f0 | exact f0.1
set_option maxHeartbeats 1000000 in
set_option maxRecDepth 100000 in
theorem kL_monthsLeft (l : Launch) (X : KX) (cJ : ClassId) (kS : Nat → Nat) (hst : l.stackTraces = false) (ad pa pb qa qb ra rb : Nat → Nat) (ha hb : Nat → Nat → Nat) (Z : CZ) (Y : RZ) (hS : SIM Z Y) (i : Int) (hi9 : i32 i) (oa : Nat) (g : Nat → Int64) : CL l X cJ kS yL_monthsLeft wsL_monthsLeft ({ frames := 8, cells := 1, slots := 6, locals := 142 }) [.ref (ad 0), .int (iI i), .ref oa] ((clB X ad pa pb qa qb ra rb ha hb Z).flatten ++ [arJ cJ oa 1 g]) (fun v9 w9 => ∃ (kk : Int) (Z9 : CZ) (g9 : Nat → Int64), W7_monthsLeft Z i kk Z9 g9 ∧ v9 = some (.int (iI kk)) ∧ w9 = (clB X ad pa pb qa qb ra rb ha hb Z9).flatten ++ [arJ cJ oa 1 g9]) 1 6 := by
  refine lo_enterL (cc := cL_monthsLeft) (maxL := 4) (ret := some .int) (hh := [(0, 9, 12, 24)]) (lv := [(0, .ref (ad 0)), (1, .int (iI i)), (2, .ref oa)]) (by decide) rfl rfl (Nat.le_of_ble_eq_true rfl) ?_
  intro p9 e9 s9 m9 bl9 me9 c9 A9 ls hA E hr hlocks hK hl hw hV hT hJ
  have Ex := E.1
  have Eb := E.2.1
  refine lv_aload_n Ex Eb dL_monthsLeft_0 rfl (lv_at hl 2 rfl) ?_
  refine lv_iconst (v := iI 0) Ex Eb dL_monthsLeft_1 rfl ?_
  refine lv_aload_n Ex Eb dL_monthsLeft_2 rfl (lv_at hl 0 rfl) ?_
  refine lv_iload_n Ex Eb dL_monthsLeft_3 rfl (lv_at hl 1 rfl) ?_
  refine lo_callVT (q0 := 0) (rest := [.int (iI 0), .ref oa]) E hK hw hV (vX7_monthsLeft l X kS hst ad pa pb qa qb ra rb ha hb Z Y hS i hi9) (cwV 1 E.2.2.2.2 gL_monthsLeft_X7_monthsLeft rfl rfl rfl (by decide +kernel) ⟨Nat.le_of_ble_eq_true rfl, Nat.le_of_ble_eq_true rfl⟩) rfl rfl (List.range' 0 145) (lo_ps_hd clB_n) (by decide +kernel) hl.1 rfl rfl (Nat.le_of_ble_eq_true rfl) dL_monthsLeft_4 ⟨Nat.le_of_ble_eq_true rfl, Nat.le_of_ble_eq_true rfl⟩ (fun E9 ce9 q9 w1 H locs hq hw hx1 hx2 hx3 => ?_) (fun v w1 H locs hq hw => ?_)
  · obtain ⟨Z9, hT7, rfl⟩ := hq
    have hw : lo_Wd X ((clB X ad pa pb qa qb ra rb ha hb Z9).flatten ++ [arJ cJ oa 1 g]) A9 s9.heap H locs := lo_cast (lo_sets_hd clB_n clB_n) hw
    rcases T7_monthsLeft_E hT7 with rfl
    · refine lo_catch (name := "java/lang/IndexOutOfBoundsException") E [] (exE (0, 9, 12, 24)) [] (hT.trans rfl) (pass0 ) rfl (by decide) (E.2.2.2.2 _ (List.mem_of_getElem? (i := 1) rfl)) (hV.2.2.2.2.2.2.2 _ (List.mem_of_getElem? (i := 5) rfl)) hx1 hx2 hx3 ?_
      refine W.eq (g2 := F0 m9 12 ls [.ref q9]) rfl ?_
      refine lv_astore_n (lv' := [(3, .ref q9), (0, .ref (ad 0)), (1, .int (iI i)), (2, .ref oa)]) Ex Eb dL_monthsLeft_12 rfl hl (by decide) rfl (fun ls hl => ?_)
      refine lv_iconst (v := iI 1) Ex Eb dL_monthsLeft_13 rfl ?_
      exact lo_iret E hr hlocks hK hA hw dL_monthsLeft_14 rfl ⟨1, Z9, g, Or.inr (⟨rfl, hT7⟩), rfl, rfl⟩
  · obtain ⟨zz, Z9, hF, rfl, rfl⟩ := hq
    have hw : lo_Wd X ((clB X ad pa pb qa qb ra rb ha hb Z9).flatten ++ [arJ cJ oa 1 g]) A9 s9.heap H locs := lo_cast (lo_sets_hd clB_n clB_n) hw
    refine W.eq (g2 := F0 m9 7 ls [.int (iI zz), .int (iI 0), .ref oa]) rfl ?_
    refine lv_i2l Ex Eb dL_monthsLeft_7 rfl ?_
    refine lo_last E hJ hw 145 rfl dL_monthsLeft_8 (fun H locs f hf hw => ?_)
    refine lv_goto Ex Eb dL_monthsLeft_9 rfl ?_
    have hw : lo_Wd X ((clB X ad pa pb qa qb ra rb ha hb Z9).flatten ++ [arJ cJ oa 1 f]) A9 s9.heap H locs := hw
    refine lv_iconst (v := iI 0) Ex Eb dL_monthsLeft_15 rfl ?_
    exact lo_iret E hr hlocks hK hA hw dL_monthsLeft_16 rfl ⟨0, Z9, f, Or.inl ⟨rfl, zz, hF, hf⟩, rfl, rfl⟩
def W7_installment (Z : CZ) (i : Int) (kk : Int) (Z9 : CZ) (g9 : Nat → Int64) : Prop := (kk = 0 ∧ ∃ zz : Int, F7_installment Z i zz Z9 ∧ g9 0 = (iI zz).toInt64) ∨ (kk = 1 ∧ T7_installment Z i "java/lang/IndexOutOfBoundsException" Z9)
theorem T7_installment_E {Z Z9 : CZ} {i : Int} {E9 : String} (h : T7_installment Z i E9 Z9) : E9 = "java/lang/IndexOutOfBoundsException" := by
  obtain ⟨f0, f1, -⟩ := h
  first | exact f0 | exact f0.1
set_option maxHeartbeats 1000000 in
set_option maxRecDepth 100000 in
theorem kL_installment (l : Launch) (X : KX) (cJ : ClassId) (kS : Nat → Nat) (hst : l.stackTraces = false) (ad pa pb qa qb ra rb : Nat → Nat) (ha hb : Nat → Nat → Nat) (Z : CZ) (Y : RZ) (hS : SIM Z Y) (i : Int) (hi9 : i32 i) (oa : Nat) (g : Nat → Int64) : CL l X cJ kS yL_installment wsL_installment ({ frames := 8, cells := 1, slots := 6, locals := 142 }) [.ref (ad 0), .int (iI i), .ref oa] ((clB X ad pa pb qa qb ra rb ha hb Z).flatten ++ [arJ cJ oa 1 g]) (fun v9 w9 => ∃ (kk : Int) (Z9 : CZ) (g9 : Nat → Int64), W7_installment Z i kk Z9 g9 ∧ v9 = some (.int (iI kk)) ∧ w9 = (clB X ad pa pb qa qb ra rb ha hb Z9).flatten ++ [arJ cJ oa 1 g9]) 1 6 := by
  refine lo_enterL (cc := cL_installment) (maxL := 4) (ret := some .int) (hh := [(0, 9, 12, 24)]) (lv := [(0, .ref (ad 0)), (1, .int (iI i)), (2, .ref oa)]) (by decide) rfl rfl (Nat.le_of_ble_eq_true rfl) ?_
  intro p9 e9 s9 m9 bl9 me9 c9 A9 ls hA E hr hlocks hK hl hw hV hT hJ
  have Ex := E.1
  have Eb := E.2.1
  refine lv_aload_n Ex Eb dL_installment_0 rfl (lv_at hl 2 rfl) ?_
  refine lv_iconst (v := iI 0) Ex Eb dL_installment_1 rfl ?_
  refine lv_aload_n Ex Eb dL_installment_2 rfl (lv_at hl 0 rfl) ?_
  refine lv_iload_n Ex Eb dL_installment_3 rfl (lv_at hl 1 rfl) ?_
  refine lo_callVT (q0 := 0) (rest := [.int (iI 0), .ref oa]) E hK hw hV (vX7_installment l X kS hst ad pa pb qa qb ra rb ha hb Z Y hS i hi9) (cwV 1 E.2.2.2.2 gL_installment_X7_installment rfl rfl rfl (by decide +kernel) ⟨Nat.le_of_ble_eq_true rfl, Nat.le_of_ble_eq_true rfl⟩) rfl rfl (List.range' 0 145) (lo_ps_hd clB_n) (by decide +kernel) hl.1 rfl rfl (Nat.le_of_ble_eq_true rfl) dL_installment_4 ⟨Nat.le_of_ble_eq_true rfl, Nat.le_of_ble_eq_true rfl⟩ (fun E9 ce9 q9 w1 H locs hq hw hx1 hx2 hx3 => ?_) (fun v w1 H locs hq hw => ?_)
  · obtain ⟨Z9, hT7, rfl⟩ := hq
    have hw : lo_Wd X ((clB X ad pa pb qa qb ra rb ha hb Z9).flatten ++ [arJ cJ oa 1 g]) A9 s9.heap H locs := lo_cast (lo_sets_hd clB_n clB_n) hw
    rcases T7_installment_E hT7 with rfl
    · refine lo_catch (name := "java/lang/IndexOutOfBoundsException") E [] (exE (0, 9, 12, 24)) [] (hT.trans rfl) (pass0 ) rfl (by decide) (E.2.2.2.2 _ (List.mem_of_getElem? (i := 1) rfl)) (hV.2.2.2.2.2.2.2 _ (List.mem_of_getElem? (i := 5) rfl)) hx1 hx2 hx3 ?_
      refine W.eq (g2 := F0 m9 12 ls [.ref q9]) rfl ?_
      refine lv_astore_n (lv' := [(3, .ref q9), (0, .ref (ad 0)), (1, .int (iI i)), (2, .ref oa)]) Ex Eb dL_installment_12 rfl hl (by decide) rfl (fun ls hl => ?_)
      refine lv_iconst (v := iI 1) Ex Eb dL_installment_13 rfl ?_
      exact lo_iret E hr hlocks hK hA hw dL_installment_14 rfl ⟨1, Z9, g, Or.inr (⟨rfl, hT7⟩), rfl, rfl⟩
  · obtain ⟨zz, Z9, hF, rfl, rfl⟩ := hq
    have hw : lo_Wd X ((clB X ad pa pb qa qb ra rb ha hb Z9).flatten ++ [arJ cJ oa 1 g]) A9 s9.heap H locs := lo_cast (lo_sets_hd clB_n clB_n) hw
    refine W.eq (g2 := F0 m9 7 ls [.int (iI zz), .int (iI 0), .ref oa]) rfl ?_
    refine lv_i2l Ex Eb dL_installment_7 rfl ?_
    refine lo_last E hJ hw 145 rfl dL_installment_8 (fun H locs f hf hw => ?_)
    refine lv_goto Ex Eb dL_installment_9 rfl ?_
    have hw : lo_Wd X ((clB X ad pa pb qa qb ra rb ha hb Z9).flatten ++ [arJ cJ oa 1 f]) A9 s9.heap H locs := hw
    refine lv_iconst (v := iI 0) Ex Eb dL_installment_15 rfl ?_
    exact lo_iret E hr hlocks hK hA hw dL_installment_16 rfl ⟨0, Z9, f, Or.inl ⟨rfl, zz, hF, hf⟩, rfl, rfl⟩
def W7_carry (Z : CZ) (i : Int) (kk : Int) (Z9 : CZ) (g9 : Nat → Int64) : Prop := (kk = 0 ∧ ∃ zz : Int, F7_carry Z i zz Z9 ∧ g9 0 = (iI zz).toInt64) ∨ (kk = 1 ∧ T7_carry Z i "java/lang/IndexOutOfBoundsException" Z9)
theorem T7_carry_E {Z Z9 : CZ} {i : Int} {E9 : String} (h : T7_carry Z i E9 Z9) : E9 = "java/lang/IndexOutOfBoundsException" := by
  obtain ⟨f0, f1, -⟩ := h
  first | exact f0 | exact f0.1
set_option maxHeartbeats 1000000 in
set_option maxRecDepth 100000 in
theorem kL_carry (l : Launch) (X : KX) (cJ : ClassId) (kS : Nat → Nat) (hst : l.stackTraces = false) (ad pa pb qa qb ra rb : Nat → Nat) (ha hb : Nat → Nat → Nat) (Z : CZ) (Y : RZ) (hS : SIM Z Y) (i : Int) (hi9 : i32 i) (oa : Nat) (g : Nat → Int64) : CL l X cJ kS yL_carry wsL_carry ({ frames := 8, cells := 1, slots := 6, locals := 142 }) [.ref (ad 0), .int (iI i), .ref oa] ((clB X ad pa pb qa qb ra rb ha hb Z).flatten ++ [arJ cJ oa 1 g]) (fun v9 w9 => ∃ (kk : Int) (Z9 : CZ) (g9 : Nat → Int64), W7_carry Z i kk Z9 g9 ∧ v9 = some (.int (iI kk)) ∧ w9 = (clB X ad pa pb qa qb ra rb ha hb Z9).flatten ++ [arJ cJ oa 1 g9]) 1 6 := by
  refine lo_enterL (cc := cL_carry) (maxL := 4) (ret := some .int) (hh := [(0, 9, 12, 24)]) (lv := [(0, .ref (ad 0)), (1, .int (iI i)), (2, .ref oa)]) (by decide) rfl rfl (Nat.le_of_ble_eq_true rfl) ?_
  intro p9 e9 s9 m9 bl9 me9 c9 A9 ls hA E hr hlocks hK hl hw hV hT hJ
  have Ex := E.1
  have Eb := E.2.1
  refine lv_aload_n Ex Eb dL_carry_0 rfl (lv_at hl 2 rfl) ?_
  refine lv_iconst (v := iI 0) Ex Eb dL_carry_1 rfl ?_
  refine lv_aload_n Ex Eb dL_carry_2 rfl (lv_at hl 0 rfl) ?_
  refine lv_iload_n Ex Eb dL_carry_3 rfl (lv_at hl 1 rfl) ?_
  refine lo_callVT (q0 := 0) (rest := [.int (iI 0), .ref oa]) E hK hw hV (vX7_carry l X kS hst ad pa pb qa qb ra rb ha hb Z Y hS i hi9) (cwV 1 E.2.2.2.2 gL_carry_X7_carry rfl rfl rfl (by decide +kernel) ⟨Nat.le_of_ble_eq_true rfl, Nat.le_of_ble_eq_true rfl⟩) rfl rfl (List.range' 0 145) (lo_ps_hd clB_n) (by decide +kernel) hl.1 rfl rfl (Nat.le_of_ble_eq_true rfl) dL_carry_4 ⟨Nat.le_of_ble_eq_true rfl, Nat.le_of_ble_eq_true rfl⟩ (fun E9 ce9 q9 w1 H locs hq hw hx1 hx2 hx3 => ?_) (fun v w1 H locs hq hw => ?_)
  · obtain ⟨Z9, hT7, rfl⟩ := hq
    have hw : lo_Wd X ((clB X ad pa pb qa qb ra rb ha hb Z9).flatten ++ [arJ cJ oa 1 g]) A9 s9.heap H locs := lo_cast (lo_sets_hd clB_n clB_n) hw
    rcases T7_carry_E hT7 with rfl
    · refine lo_catch (name := "java/lang/IndexOutOfBoundsException") E [] (exE (0, 9, 12, 24)) [] (hT.trans rfl) (pass0 ) rfl (by decide) (E.2.2.2.2 _ (List.mem_of_getElem? (i := 1) rfl)) (hV.2.2.2.2.2.2.2 _ (List.mem_of_getElem? (i := 5) rfl)) hx1 hx2 hx3 ?_
      refine W.eq (g2 := F0 m9 12 ls [.ref q9]) rfl ?_
      refine lv_astore_n (lv' := [(3, .ref q9), (0, .ref (ad 0)), (1, .int (iI i)), (2, .ref oa)]) Ex Eb dL_carry_12 rfl hl (by decide) rfl (fun ls hl => ?_)
      refine lv_iconst (v := iI 1) Ex Eb dL_carry_13 rfl ?_
      exact lo_iret E hr hlocks hK hA hw dL_carry_14 rfl ⟨1, Z9, g, Or.inr (⟨rfl, hT7⟩), rfl, rfl⟩
  · obtain ⟨zz, Z9, hF, rfl, rfl⟩ := hq
    have hw : lo_Wd X ((clB X ad pa pb qa qb ra rb ha hb Z9).flatten ++ [arJ cJ oa 1 g]) A9 s9.heap H locs := lo_cast (lo_sets_hd clB_n clB_n) hw
    refine W.eq (g2 := F0 m9 7 ls [.int (iI zz), .int (iI 0), .ref oa]) rfl ?_
    refine lv_i2l Ex Eb dL_carry_7 rfl ?_
    refine lo_last E hJ hw 145 rfl dL_carry_8 (fun H locs f hf hw => ?_)
    refine lv_goto Ex Eb dL_carry_9 rfl ?_
    have hw : lo_Wd X ((clB X ad pa pb qa qb ra rb ha hb Z9).flatten ++ [arJ cJ oa 1 f]) A9 s9.heap H locs := hw
    refine lv_iconst (v := iI 0) Ex Eb dL_carry_15 rfl ?_
    exact lo_iret E hr hlocks hK hA hw dL_carry_16 rfl ⟨0, Z9, f, Or.inl ⟨rfl, zz, hF, hf⟩, rfl, rfl⟩
def W7_interestDue (Z : CZ) (i : Int) (kk : Int) (Z9 : CZ) (g9 : Nat → Int64) : Prop := (kk = 0 ∧ ∃ zz : Int, F7_interestDue Z i zz Z9 ∧ g9 0 = (iI zz).toInt64) ∨ (kk = 1 ∧ T7_interestDue Z i "java/lang/IndexOutOfBoundsException" Z9)
theorem T7_interestDue_E {Z Z9 : CZ} {i : Int} {E9 : String} (h : T7_interestDue Z i E9 Z9) : E9 = "java/lang/IndexOutOfBoundsException" := by
  obtain ⟨f0, f1, -⟩ := h
  first | exact f0 | exact f0.1
set_option maxHeartbeats 1000000 in
set_option maxRecDepth 100000 in
theorem kL_interestDue (l : Launch) (X : KX) (cJ : ClassId) (kS : Nat → Nat) (hst : l.stackTraces = false) (ad pa pb qa qb ra rb : Nat → Nat) (ha hb : Nat → Nat → Nat) (Z : CZ) (Y : RZ) (hS : SIM Z Y) (i : Int) (hi9 : i32 i) (oa : Nat) (g : Nat → Int64) : CL l X cJ kS yL_interestDue wsL_interestDue ({ frames := 8, cells := 1, slots := 6, locals := 142 }) [.ref (ad 0), .int (iI i), .ref oa] ((clB X ad pa pb qa qb ra rb ha hb Z).flatten ++ [arJ cJ oa 1 g]) (fun v9 w9 => ∃ (kk : Int) (Z9 : CZ) (g9 : Nat → Int64), W7_interestDue Z i kk Z9 g9 ∧ v9 = some (.int (iI kk)) ∧ w9 = (clB X ad pa pb qa qb ra rb ha hb Z9).flatten ++ [arJ cJ oa 1 g9]) 1 6 := by
  refine lo_enterL (cc := cL_interestDue) (maxL := 4) (ret := some .int) (hh := [(0, 9, 12, 24)]) (lv := [(0, .ref (ad 0)), (1, .int (iI i)), (2, .ref oa)]) (by decide) rfl rfl (Nat.le_of_ble_eq_true rfl) ?_
  intro p9 e9 s9 m9 bl9 me9 c9 A9 ls hA E hr hlocks hK hl hw hV hT hJ
  have Ex := E.1
  have Eb := E.2.1
  refine lv_aload_n Ex Eb dL_interestDue_0 rfl (lv_at hl 2 rfl) ?_
  refine lv_iconst (v := iI 0) Ex Eb dL_interestDue_1 rfl ?_
  refine lv_aload_n Ex Eb dL_interestDue_2 rfl (lv_at hl 0 rfl) ?_
  refine lv_iload_n Ex Eb dL_interestDue_3 rfl (lv_at hl 1 rfl) ?_
  refine lo_callVT (q0 := 0) (rest := [.int (iI 0), .ref oa]) E hK hw hV (vX7_interestDue l X kS hst ad pa pb qa qb ra rb ha hb Z Y hS i hi9) (cwV 1 E.2.2.2.2 gL_interestDue_X7_interestDue rfl rfl rfl (by decide +kernel) ⟨Nat.le_of_ble_eq_true rfl, Nat.le_of_ble_eq_true rfl⟩) rfl rfl (List.range' 0 145) (lo_ps_hd clB_n) (by decide +kernel) hl.1 rfl rfl (Nat.le_of_ble_eq_true rfl) dL_interestDue_4 ⟨Nat.le_of_ble_eq_true rfl, Nat.le_of_ble_eq_true rfl⟩ (fun E9 ce9 q9 w1 H locs hq hw hx1 hx2 hx3 => ?_) (fun v w1 H locs hq hw => ?_)
  · obtain ⟨Z9, hT7, rfl⟩ := hq
    have hw : lo_Wd X ((clB X ad pa pb qa qb ra rb ha hb Z9).flatten ++ [arJ cJ oa 1 g]) A9 s9.heap H locs := lo_cast (lo_sets_hd clB_n clB_n) hw
    rcases T7_interestDue_E hT7 with rfl
    · refine lo_catch (name := "java/lang/IndexOutOfBoundsException") E [] (exE (0, 9, 12, 24)) [] (hT.trans rfl) (pass0 ) rfl (by decide) (E.2.2.2.2 _ (List.mem_of_getElem? (i := 1) rfl)) (hV.2.2.2.2.2.2.2 _ (List.mem_of_getElem? (i := 5) rfl)) hx1 hx2 hx3 ?_
      refine W.eq (g2 := F0 m9 12 ls [.ref q9]) rfl ?_
      refine lv_astore_n (lv' := [(3, .ref q9), (0, .ref (ad 0)), (1, .int (iI i)), (2, .ref oa)]) Ex Eb dL_interestDue_12 rfl hl (by decide) rfl (fun ls hl => ?_)
      refine lv_iconst (v := iI 1) Ex Eb dL_interestDue_13 rfl ?_
      exact lo_iret E hr hlocks hK hA hw dL_interestDue_14 rfl ⟨1, Z9, g, Or.inr (⟨rfl, hT7⟩), rfl, rfl⟩
  · obtain ⟨zz, Z9, hF, rfl, rfl⟩ := hq
    have hw : lo_Wd X ((clB X ad pa pb qa qb ra rb ha hb Z9).flatten ++ [arJ cJ oa 1 g]) A9 s9.heap H locs := lo_cast (lo_sets_hd clB_n clB_n) hw
    refine W.eq (g2 := F0 m9 7 ls [.int (iI zz), .int (iI 0), .ref oa]) rfl ?_
    refine lv_i2l Ex Eb dL_interestDue_7 rfl ?_
    refine lo_last E hJ hw 145 rfl dL_interestDue_8 (fun H locs f hf hw => ?_)
    refine lv_goto Ex Eb dL_interestDue_9 rfl ?_
    have hw : lo_Wd X ((clB X ad pa pb qa qb ra rb ha hb Z9).flatten ++ [arJ cJ oa 1 f]) A9 s9.heap H locs := hw
    refine lv_iconst (v := iI 0) Ex Eb dL_interestDue_15 rfl ?_
    exact lo_iret E hr hlocks hK hA hw dL_interestDue_16 rfl ⟨0, Z9, f, Or.inl ⟨rfl, zz, hF, hf⟩, rfl, rfl⟩
def W7_amountDue (Z : CZ) (i : Int) (kk : Int) (Z9 : CZ) (g9 : Nat → Int64) : Prop := (kk = 0 ∧ ∃ zz : Int, F7_amountDue Z i zz Z9 ∧ g9 0 = (iI zz).toInt64) ∨ (kk = 1 ∧ T7_amountDue Z i "java/lang/IndexOutOfBoundsException" Z9)
theorem T7_amountDue_E {Z Z9 : CZ} {i : Int} {E9 : String} (h : T7_amountDue Z i E9 Z9) : E9 = "java/lang/IndexOutOfBoundsException" := by
  obtain ⟨f0, f1, -⟩ := h
  first | exact f0 | exact f0.1
set_option maxHeartbeats 1000000 in
set_option maxRecDepth 100000 in
theorem kL_amountDue (l : Launch) (X : KX) (cJ : ClassId) (kS : Nat → Nat) (hst : l.stackTraces = false) (ad pa pb qa qb ra rb : Nat → Nat) (ha hb : Nat → Nat → Nat) (Z : CZ) (Y : RZ) (hS : SIM Z Y) (i : Int) (hi9 : i32 i) (oa : Nat) (g : Nat → Int64) : CL l X cJ kS yL_amountDue wsL_amountDue ({ frames := 8, cells := 1, slots := 6, locals := 142 }) [.ref (ad 0), .int (iI i), .ref oa] ((clB X ad pa pb qa qb ra rb ha hb Z).flatten ++ [arJ cJ oa 1 g]) (fun v9 w9 => ∃ (kk : Int) (Z9 : CZ) (g9 : Nat → Int64), W7_amountDue Z i kk Z9 g9 ∧ v9 = some (.int (iI kk)) ∧ w9 = (clB X ad pa pb qa qb ra rb ha hb Z9).flatten ++ [arJ cJ oa 1 g9]) 1 6 := by
  refine lo_enterL (cc := cL_amountDue) (maxL := 4) (ret := some .int) (hh := [(0, 9, 12, 24)]) (lv := [(0, .ref (ad 0)), (1, .int (iI i)), (2, .ref oa)]) (by decide) rfl rfl (Nat.le_of_ble_eq_true rfl) ?_
  intro p9 e9 s9 m9 bl9 me9 c9 A9 ls hA E hr hlocks hK hl hw hV hT hJ
  have Ex := E.1
  have Eb := E.2.1
  refine lv_aload_n Ex Eb dL_amountDue_0 rfl (lv_at hl 2 rfl) ?_
  refine lv_iconst (v := iI 0) Ex Eb dL_amountDue_1 rfl ?_
  refine lv_aload_n Ex Eb dL_amountDue_2 rfl (lv_at hl 0 rfl) ?_
  refine lv_iload_n Ex Eb dL_amountDue_3 rfl (lv_at hl 1 rfl) ?_
  refine lo_callVT (q0 := 0) (rest := [.int (iI 0), .ref oa]) E hK hw hV (vX7_amountDue l X kS hst ad pa pb qa qb ra rb ha hb Z Y hS i hi9) (cwV 1 E.2.2.2.2 gL_amountDue_X7_amountDue rfl rfl rfl (by decide +kernel) ⟨Nat.le_of_ble_eq_true rfl, Nat.le_of_ble_eq_true rfl⟩) rfl rfl (List.range' 0 145) (lo_ps_hd clB_n) (by decide +kernel) hl.1 rfl rfl (Nat.le_of_ble_eq_true rfl) dL_amountDue_4 ⟨Nat.le_of_ble_eq_true rfl, Nat.le_of_ble_eq_true rfl⟩ (fun E9 ce9 q9 w1 H locs hq hw hx1 hx2 hx3 => ?_) (fun v w1 H locs hq hw => ?_)
  · obtain ⟨Z9, hT7, rfl⟩ := hq
    have hw : lo_Wd X ((clB X ad pa pb qa qb ra rb ha hb Z9).flatten ++ [arJ cJ oa 1 g]) A9 s9.heap H locs := lo_cast (lo_sets_hd clB_n clB_n) hw
    rcases T7_amountDue_E hT7 with rfl
    · refine lo_catch (name := "java/lang/IndexOutOfBoundsException") E [] (exE (0, 9, 12, 24)) [] (hT.trans rfl) (pass0 ) rfl (by decide) (E.2.2.2.2 _ (List.mem_of_getElem? (i := 1) rfl)) (hV.2.2.2.2.2.2.2 _ (List.mem_of_getElem? (i := 5) rfl)) hx1 hx2 hx3 ?_
      refine W.eq (g2 := F0 m9 12 ls [.ref q9]) rfl ?_
      refine lv_astore_n (lv' := [(3, .ref q9), (0, .ref (ad 0)), (1, .int (iI i)), (2, .ref oa)]) Ex Eb dL_amountDue_12 rfl hl (by decide) rfl (fun ls hl => ?_)
      refine lv_iconst (v := iI 1) Ex Eb dL_amountDue_13 rfl ?_
      exact lo_iret E hr hlocks hK hA hw dL_amountDue_14 rfl ⟨1, Z9, g, Or.inr (⟨rfl, hT7⟩), rfl, rfl⟩
  · obtain ⟨zz, Z9, hF, rfl, rfl⟩ := hq
    have hw : lo_Wd X ((clB X ad pa pb qa qb ra rb ha hb Z9).flatten ++ [arJ cJ oa 1 g]) A9 s9.heap H locs := lo_cast (lo_sets_hd clB_n clB_n) hw
    refine W.eq (g2 := F0 m9 7 ls [.int (iI zz), .int (iI 0), .ref oa]) rfl ?_
    refine lv_i2l Ex Eb dL_amountDue_7 rfl ?_
    refine lo_last E hJ hw 145 rfl dL_amountDue_8 (fun H locs f hf hw => ?_)
    refine lv_goto Ex Eb dL_amountDue_9 rfl ?_
    have hw : lo_Wd X ((clB X ad pa pb qa qb ra rb ha hb Z9).flatten ++ [arJ cJ oa 1 f]) A9 s9.heap H locs := hw
    refine lv_iconst (v := iI 0) Ex Eb dL_amountDue_15 rfl ?_
    exact lo_iret E hr hlocks hK hA hw dL_amountDue_16 rfl ⟨0, Z9, f, Or.inl ⟨rfl, zz, hF, hf⟩, rfl, rfl⟩
def W7_interestSoFar (Z : CZ) (i : Int) (kk : Int) (Z9 : CZ) (g9 : Nat → Int64) : Prop := (kk = 0 ∧ ∃ zz : Int, F7_interestSoFar Z i zz Z9 ∧ g9 0 = (iI zz).toInt64) ∨ (kk = 1 ∧ T7_interestSoFar Z i "java/lang/IndexOutOfBoundsException" Z9)
theorem T7_interestSoFar_E {Z Z9 : CZ} {i : Int} {E9 : String} (h : T7_interestSoFar Z i E9 Z9) : E9 = "java/lang/IndexOutOfBoundsException" := by
  obtain ⟨f0, f1, -⟩ := h
  first | exact f0 | exact f0.1
set_option maxHeartbeats 1000000 in
set_option maxRecDepth 100000 in
theorem kL_interestSoFar (l : Launch) (X : KX) (cJ : ClassId) (kS : Nat → Nat) (hst : l.stackTraces = false) (ad pa pb qa qb ra rb : Nat → Nat) (ha hb : Nat → Nat → Nat) (Z : CZ) (Y : RZ) (hS : SIM Z Y) (i : Int) (hi9 : i32 i) (oa : Nat) (g : Nat → Int64) : CL l X cJ kS yL_interestSoFar wsL_interestSoFar ({ frames := 8, cells := 1, slots := 6, locals := 142 }) [.ref (ad 0), .int (iI i), .ref oa] ((clB X ad pa pb qa qb ra rb ha hb Z).flatten ++ [arJ cJ oa 1 g]) (fun v9 w9 => ∃ (kk : Int) (Z9 : CZ) (g9 : Nat → Int64), W7_interestSoFar Z i kk Z9 g9 ∧ v9 = some (.int (iI kk)) ∧ w9 = (clB X ad pa pb qa qb ra rb ha hb Z9).flatten ++ [arJ cJ oa 1 g9]) 1 6 := by
  refine lo_enterL (cc := cL_interestSoFar) (maxL := 4) (ret := some .int) (hh := [(0, 9, 12, 24)]) (lv := [(0, .ref (ad 0)), (1, .int (iI i)), (2, .ref oa)]) (by decide) rfl rfl (Nat.le_of_ble_eq_true rfl) ?_
  intro p9 e9 s9 m9 bl9 me9 c9 A9 ls hA E hr hlocks hK hl hw hV hT hJ
  have Ex := E.1
  have Eb := E.2.1
  refine lv_aload_n Ex Eb dL_interestSoFar_0 rfl (lv_at hl 2 rfl) ?_
  refine lv_iconst (v := iI 0) Ex Eb dL_interestSoFar_1 rfl ?_
  refine lv_aload_n Ex Eb dL_interestSoFar_2 rfl (lv_at hl 0 rfl) ?_
  refine lv_iload_n Ex Eb dL_interestSoFar_3 rfl (lv_at hl 1 rfl) ?_
  refine lo_callVT (q0 := 0) (rest := [.int (iI 0), .ref oa]) E hK hw hV (vX7_interestSoFar l X kS hst ad pa pb qa qb ra rb ha hb Z Y hS i hi9) (cwV 1 E.2.2.2.2 gL_interestSoFar_X7_interestSoFar rfl rfl rfl (by decide +kernel) ⟨Nat.le_of_ble_eq_true rfl, Nat.le_of_ble_eq_true rfl⟩) rfl rfl (List.range' 0 145) (lo_ps_hd clB_n) (by decide +kernel) hl.1 rfl rfl (Nat.le_of_ble_eq_true rfl) dL_interestSoFar_4 ⟨Nat.le_of_ble_eq_true rfl, Nat.le_of_ble_eq_true rfl⟩ (fun E9 ce9 q9 w1 H locs hq hw hx1 hx2 hx3 => ?_) (fun v w1 H locs hq hw => ?_)
  · obtain ⟨Z9, hT7, rfl⟩ := hq
    have hw : lo_Wd X ((clB X ad pa pb qa qb ra rb ha hb Z9).flatten ++ [arJ cJ oa 1 g]) A9 s9.heap H locs := lo_cast (lo_sets_hd clB_n clB_n) hw
    rcases T7_interestSoFar_E hT7 with rfl
    · refine lo_catch (name := "java/lang/IndexOutOfBoundsException") E [] (exE (0, 9, 12, 24)) [] (hT.trans rfl) (pass0 ) rfl (by decide) (E.2.2.2.2 _ (List.mem_of_getElem? (i := 1) rfl)) (hV.2.2.2.2.2.2.2 _ (List.mem_of_getElem? (i := 5) rfl)) hx1 hx2 hx3 ?_
      refine W.eq (g2 := F0 m9 12 ls [.ref q9]) rfl ?_
      refine lv_astore_n (lv' := [(3, .ref q9), (0, .ref (ad 0)), (1, .int (iI i)), (2, .ref oa)]) Ex Eb dL_interestSoFar_12 rfl hl (by decide) rfl (fun ls hl => ?_)
      refine lv_iconst (v := iI 1) Ex Eb dL_interestSoFar_13 rfl ?_
      exact lo_iret E hr hlocks hK hA hw dL_interestSoFar_14 rfl ⟨1, Z9, g, Or.inr (⟨rfl, hT7⟩), rfl, rfl⟩
  · obtain ⟨zz, Z9, hF, rfl, rfl⟩ := hq
    have hw : lo_Wd X ((clB X ad pa pb qa qb ra rb ha hb Z9).flatten ++ [arJ cJ oa 1 g]) A9 s9.heap H locs := lo_cast (lo_sets_hd clB_n clB_n) hw
    refine W.eq (g2 := F0 m9 7 ls [.int (iI zz), .int (iI 0), .ref oa]) rfl ?_
    refine lv_i2l Ex Eb dL_interestSoFar_7 rfl ?_
    refine lo_last E hJ hw 145 rfl dL_interestSoFar_8 (fun H locs f hf hw => ?_)
    refine lv_goto Ex Eb dL_interestSoFar_9 rfl ?_
    have hw : lo_Wd X ((clB X ad pa pb qa qb ra rb ha hb Z9).flatten ++ [arJ cJ oa 1 f]) A9 s9.heap H locs := hw
    refine lv_iconst (v := iI 0) Ex Eb dL_interestSoFar_15 rfl ?_
    exact lo_iret E hr hlocks hK hA hw dL_interestSoFar_16 rfl ⟨0, Z9, f, Or.inl ⟨rfl, zz, hF, hf⟩, rfl, rfl⟩
