def W7_paidSoFar (Z : CZ) (i : Int) (kk : Int) (Z9 : CZ) (g9 : Nat → Int64) : Prop := (kk = 0 ∧ ∃ zz : Int, F7_paidSoFar Z i zz Z9 ∧ g9 0 = (iI zz).toInt64) ∨ (kk = 1 ∧ T7_paidSoFar Z i "java/lang/IndexOutOfBoundsException" Z9)
theorem T7_paidSoFar_E {Z Z9 : CZ} {i : Int} {E9 : String} (h : T7_paidSoFar Z i E9 Z9) : E9 = "java/lang/IndexOutOfBoundsException" := by
  obtain ⟨f0, f1, -⟩ := h
  first | exact f0 | exact f0.1
set_option maxHeartbeats 1000000 in
set_option maxRecDepth 100000 in
theorem kL_paidSoFar (l : Launch) (X : KX) (cJ : ClassId) (kS : Nat → Nat) (hst : l.stackTraces = false) (ad pa pb qa qb ra rb : Nat → Nat) (ha hb : Nat → Nat → Nat) (Z : CZ) (Y : RZ) (hS : SIM Z Y) (i : Int) (hi9 : i32 i) (oa : Nat) (g : Nat → Int64) : CL l X cJ kS yL_paidSoFar wsL_paidSoFar ({ frames := 8, cells := 1, slots := 6, locals := 142 }) [.ref (ad 0), .int (iI i), .ref oa] ((clB X ad pa pb qa qb ra rb ha hb Z).flatten ++ [arJ cJ oa 1 g]) (fun v9 w9 => ∃ (kk : Int) (Z9 : CZ) (g9 : Nat → Int64), W7_paidSoFar Z i kk Z9 g9 ∧ v9 = some (.int (iI kk)) ∧ w9 = (clB X ad pa pb qa qb ra rb ha hb Z9).flatten ++ [arJ cJ oa 1 g9]) 1 6 := by
  refine lo_enterL (cc := cL_paidSoFar) (maxL := 4) (ret := some .int) (hh := [(0, 9, 12, 24)]) (lv := [(0, .ref (ad 0)), (1, .int (iI i)), (2, .ref oa)]) (by decide) rfl rfl (Nat.le_of_ble_eq_true rfl) ?_
  intro p9 e9 s9 m9 bl9 me9 c9 A9 ls hA E hr hlocks hK hl hw hV hT hJ
  have Ex := E.1
  have Eb := E.2.1
  refine lv_aload_n Ex Eb dL_paidSoFar_0 rfl (lv_at hl 2 rfl) ?_
  refine lv_iconst (v := iI 0) Ex Eb dL_paidSoFar_1 rfl ?_
  refine lv_aload_n Ex Eb dL_paidSoFar_2 rfl (lv_at hl 0 rfl) ?_
  refine lv_iload_n Ex Eb dL_paidSoFar_3 rfl (lv_at hl 1 rfl) ?_
  refine lo_callVT (q0 := 0) (rest := [.int (iI 0), .ref oa]) E hK hw hV (vX7_paidSoFar l X kS hst ad pa pb qa qb ra rb ha hb Z Y hS i hi9) (cwV 1 E.2.2.2.2 gL_paidSoFar_X7_paidSoFar rfl rfl rfl (by decide +kernel) ⟨Nat.le_of_ble_eq_true rfl, Nat.le_of_ble_eq_true rfl⟩) rfl rfl (List.range' 0 145) (lo_ps_hd clB_n) (by decide +kernel) hl.1 rfl rfl (Nat.le_of_ble_eq_true rfl) dL_paidSoFar_4 ⟨Nat.le_of_ble_eq_true rfl, Nat.le_of_ble_eq_true rfl⟩ (fun E9 ce9 q9 w1 H locs hq hw hx1 hx2 hx3 => ?_) (fun v w1 H locs hq hw => ?_)
  · obtain ⟨Z9, hT7, rfl⟩ := hq
    have hw : lo_Wd X ((clB X ad pa pb qa qb ra rb ha hb Z9).flatten ++ [arJ cJ oa 1 g]) A9 s9.heap H locs := lo_cast (lo_sets_hd clB_n clB_n) hw
    rcases T7_paidSoFar_E hT7 with rfl
    · refine lo_catch (name := "java/lang/IndexOutOfBoundsException") E [] (exE (0, 9, 12, 24)) [] (hT.trans rfl) (pass0 ) rfl (by decide) (E.2.2.2.2 _ (List.mem_of_getElem? (i := 1) rfl)) (hV.2.2.2.2.2.2.2 _ (List.mem_of_getElem? (i := 5) rfl)) hx1 hx2 hx3 ?_
      refine W.eq (g2 := F0 m9 12 ls [.ref q9]) rfl ?_
      refine lv_astore_n (lv' := [(3, .ref q9), (0, .ref (ad 0)), (1, .int (iI i)), (2, .ref oa)]) Ex Eb dL_paidSoFar_12 rfl hl (by decide) rfl (fun ls hl => ?_)
      refine lv_iconst (v := iI 1) Ex Eb dL_paidSoFar_13 rfl ?_
      exact lo_iret E hr hlocks hK hA hw dL_paidSoFar_14 rfl ⟨1, Z9, g, Or.inr (⟨rfl, hT7⟩), rfl, rfl⟩
  · obtain ⟨zz, Z9, hF, rfl, rfl⟩ := hq
    have hw : lo_Wd X ((clB X ad pa pb qa qb ra rb ha hb Z9).flatten ++ [arJ cJ oa 1 g]) A9 s9.heap H locs := lo_cast (lo_sets_hd clB_n clB_n) hw
    refine W.eq (g2 := F0 m9 7 ls [.int (iI zz), .int (iI 0), .ref oa]) rfl ?_
    refine lv_i2l Ex Eb dL_paidSoFar_7 rfl ?_
    refine lo_last E hJ hw 145 rfl dL_paidSoFar_8 (fun H locs f hf hw => ?_)
    refine lv_goto Ex Eb dL_paidSoFar_9 rfl ?_
    have hw : lo_Wd X ((clB X ad pa pb qa qb ra rb ha hb Z9).flatten ++ [arJ cJ oa 1 f]) A9 s9.heap H locs := hw
    refine lv_iconst (v := iI 0) Ex Eb dL_paidSoFar_15 rfl ?_
    exact lo_iret E hr hlocks hK hA hw dL_paidSoFar_16 rfl ⟨0, Z9, f, Or.inl ⟨rfl, zz, hF, hf⟩, rfl, rfl⟩
def W7_paidMonths (Z : CZ) (i : Int) (kk : Int) (Z9 : CZ) (g9 : Nat → Int64) : Prop := (kk = 0 ∧ ∃ zz : Int, F7_paidMonths Z i zz Z9 ∧ g9 0 = (iI zz).toInt64) ∨ (kk = 1 ∧ T7_paidMonths Z i "java/lang/IndexOutOfBoundsException" Z9)
theorem T7_paidMonths_E {Z Z9 : CZ} {i : Int} {E9 : String} (h : T7_paidMonths Z i E9 Z9) : E9 = "java/lang/IndexOutOfBoundsException" := by
  obtain ⟨f0, f1, -⟩ := h
  first | exact f0 | exact f0.1
set_option maxHeartbeats 1000000 in
set_option maxRecDepth 100000 in
theorem kL_paidMonths (l : Launch) (X : KX) (cJ : ClassId) (kS : Nat → Nat) (hst : l.stackTraces = false) (ad pa pb qa qb ra rb : Nat → Nat) (ha hb : Nat → Nat → Nat) (Z : CZ) (Y : RZ) (hS : SIM Z Y) (i : Int) (hi9 : i32 i) (oa : Nat) (g : Nat → Int64) : CL l X cJ kS yL_paidMonths wsL_paidMonths ({ frames := 8, cells := 1, slots := 6, locals := 142 }) [.ref (ad 0), .int (iI i), .ref oa] ((clB X ad pa pb qa qb ra rb ha hb Z).flatten ++ [arJ cJ oa 1 g]) (fun v9 w9 => ∃ (kk : Int) (Z9 : CZ) (g9 : Nat → Int64), W7_paidMonths Z i kk Z9 g9 ∧ v9 = some (.int (iI kk)) ∧ w9 = (clB X ad pa pb qa qb ra rb ha hb Z9).flatten ++ [arJ cJ oa 1 g9]) 1 6 := by
  refine lo_enterL (cc := cL_paidMonths) (maxL := 4) (ret := some .int) (hh := [(0, 9, 12, 24)]) (lv := [(0, .ref (ad 0)), (1, .int (iI i)), (2, .ref oa)]) (by decide) rfl rfl (Nat.le_of_ble_eq_true rfl) ?_
  intro p9 e9 s9 m9 bl9 me9 c9 A9 ls hA E hr hlocks hK hl hw hV hT hJ
  have Ex := E.1
  have Eb := E.2.1
  refine lv_aload_n Ex Eb dL_paidMonths_0 rfl (lv_at hl 2 rfl) ?_
  refine lv_iconst (v := iI 0) Ex Eb dL_paidMonths_1 rfl ?_
  refine lv_aload_n Ex Eb dL_paidMonths_2 rfl (lv_at hl 0 rfl) ?_
  refine lv_iload_n Ex Eb dL_paidMonths_3 rfl (lv_at hl 1 rfl) ?_
  refine lo_callVT (q0 := 0) (rest := [.int (iI 0), .ref oa]) E hK hw hV (vX7_paidMonths l X kS hst ad pa pb qa qb ra rb ha hb Z Y hS i hi9) (cwV 1 E.2.2.2.2 gL_paidMonths_X7_paidMonths rfl rfl rfl (by decide +kernel) ⟨Nat.le_of_ble_eq_true rfl, Nat.le_of_ble_eq_true rfl⟩) rfl rfl (List.range' 0 145) (lo_ps_hd clB_n) (by decide +kernel) hl.1 rfl rfl (Nat.le_of_ble_eq_true rfl) dL_paidMonths_4 ⟨Nat.le_of_ble_eq_true rfl, Nat.le_of_ble_eq_true rfl⟩ (fun E9 ce9 q9 w1 H locs hq hw hx1 hx2 hx3 => ?_) (fun v w1 H locs hq hw => ?_)
  · obtain ⟨Z9, hT7, rfl⟩ := hq
    have hw : lo_Wd X ((clB X ad pa pb qa qb ra rb ha hb Z9).flatten ++ [arJ cJ oa 1 g]) A9 s9.heap H locs := lo_cast (lo_sets_hd clB_n clB_n) hw
    rcases T7_paidMonths_E hT7 with rfl
    · refine lo_catch (name := "java/lang/IndexOutOfBoundsException") E [] (exE (0, 9, 12, 24)) [] (hT.trans rfl) (pass0 ) rfl (by decide) (E.2.2.2.2 _ (List.mem_of_getElem? (i := 1) rfl)) (hV.2.2.2.2.2.2.2 _ (List.mem_of_getElem? (i := 5) rfl)) hx1 hx2 hx3 ?_
      refine W.eq (g2 := F0 m9 12 ls [.ref q9]) rfl ?_
      refine lv_astore_n (lv' := [(3, .ref q9), (0, .ref (ad 0)), (1, .int (iI i)), (2, .ref oa)]) Ex Eb dL_paidMonths_12 rfl hl (by decide) rfl (fun ls hl => ?_)
      refine lv_iconst (v := iI 1) Ex Eb dL_paidMonths_13 rfl ?_
      exact lo_iret E hr hlocks hK hA hw dL_paidMonths_14 rfl ⟨1, Z9, g, Or.inr (⟨rfl, hT7⟩), rfl, rfl⟩
  · obtain ⟨zz, Z9, hF, rfl, rfl⟩ := hq
    have hw : lo_Wd X ((clB X ad pa pb qa qb ra rb ha hb Z9).flatten ++ [arJ cJ oa 1 g]) A9 s9.heap H locs := lo_cast (lo_sets_hd clB_n clB_n) hw
    refine W.eq (g2 := F0 m9 7 ls [.int (iI zz), .int (iI 0), .ref oa]) rfl ?_
    refine lv_i2l Ex Eb dL_paidMonths_7 rfl ?_
    refine lo_last E hJ hw 145 rfl dL_paidMonths_8 (fun H locs f hf hw => ?_)
    refine lv_goto Ex Eb dL_paidMonths_9 rfl ?_
    have hw : lo_Wd X ((clB X ad pa pb qa qb ra rb ha hb Z9).flatten ++ [arJ cJ oa 1 f]) A9 s9.heap H locs := hw
    refine lv_iconst (v := iI 0) Ex Eb dL_paidMonths_15 rfl ?_
    exact lo_iret E hr hlocks hK hA hw dL_paidMonths_16 rfl ⟨0, Z9, f, Or.inl ⟨rfl, zz, hF, hf⟩, rfl, rfl⟩
def W7_skippedMonths (Z : CZ) (i : Int) (kk : Int) (Z9 : CZ) (g9 : Nat → Int64) : Prop := (kk = 0 ∧ ∃ zz : Int, F7_skippedMonths Z i zz Z9 ∧ g9 0 = (iI zz).toInt64) ∨ (kk = 1 ∧ T7_skippedMonths Z i "java/lang/IndexOutOfBoundsException" Z9)
theorem T7_skippedMonths_E {Z Z9 : CZ} {i : Int} {E9 : String} (h : T7_skippedMonths Z i E9 Z9) : E9 = "java/lang/IndexOutOfBoundsException" := by
  obtain ⟨f0, f1, -⟩ := h
  first | exact f0 | exact f0.1
set_option maxHeartbeats 1000000 in
set_option maxRecDepth 100000 in
theorem kL_skippedMonths (l : Launch) (X : KX) (cJ : ClassId) (kS : Nat → Nat) (hst : l.stackTraces = false) (ad pa pb qa qb ra rb : Nat → Nat) (ha hb : Nat → Nat → Nat) (Z : CZ) (Y : RZ) (hS : SIM Z Y) (i : Int) (hi9 : i32 i) (oa : Nat) (g : Nat → Int64) : CL l X cJ kS yL_skippedMonths wsL_skippedMonths ({ frames := 8, cells := 1, slots := 6, locals := 142 }) [.ref (ad 0), .int (iI i), .ref oa] ((clB X ad pa pb qa qb ra rb ha hb Z).flatten ++ [arJ cJ oa 1 g]) (fun v9 w9 => ∃ (kk : Int) (Z9 : CZ) (g9 : Nat → Int64), W7_skippedMonths Z i kk Z9 g9 ∧ v9 = some (.int (iI kk)) ∧ w9 = (clB X ad pa pb qa qb ra rb ha hb Z9).flatten ++ [arJ cJ oa 1 g9]) 1 6 := by
  refine lo_enterL (cc := cL_skippedMonths) (maxL := 4) (ret := some .int) (hh := [(0, 9, 12, 24)]) (lv := [(0, .ref (ad 0)), (1, .int (iI i)), (2, .ref oa)]) (by decide) rfl rfl (Nat.le_of_ble_eq_true rfl) ?_
  intro p9 e9 s9 m9 bl9 me9 c9 A9 ls hA E hr hlocks hK hl hw hV hT hJ
  have Ex := E.1
  have Eb := E.2.1
  refine lv_aload_n Ex Eb dL_skippedMonths_0 rfl (lv_at hl 2 rfl) ?_
  refine lv_iconst (v := iI 0) Ex Eb dL_skippedMonths_1 rfl ?_
  refine lv_aload_n Ex Eb dL_skippedMonths_2 rfl (lv_at hl 0 rfl) ?_
  refine lv_iload_n Ex Eb dL_skippedMonths_3 rfl (lv_at hl 1 rfl) ?_
  refine lo_callVT (q0 := 0) (rest := [.int (iI 0), .ref oa]) E hK hw hV (vX7_skippedMonths l X kS hst ad pa pb qa qb ra rb ha hb Z Y hS i hi9) (cwV 1 E.2.2.2.2 gL_skippedMonths_X7_skippedMonths rfl rfl rfl (by decide +kernel) ⟨Nat.le_of_ble_eq_true rfl, Nat.le_of_ble_eq_true rfl⟩) rfl rfl (List.range' 0 145) (lo_ps_hd clB_n) (by decide +kernel) hl.1 rfl rfl (Nat.le_of_ble_eq_true rfl) dL_skippedMonths_4 ⟨Nat.le_of_ble_eq_true rfl, Nat.le_of_ble_eq_true rfl⟩ (fun E9 ce9 q9 w1 H locs hq hw hx1 hx2 hx3 => ?_) (fun v w1 H locs hq hw => ?_)
  · obtain ⟨Z9, hT7, rfl⟩ := hq
    have hw : lo_Wd X ((clB X ad pa pb qa qb ra rb ha hb Z9).flatten ++ [arJ cJ oa 1 g]) A9 s9.heap H locs := lo_cast (lo_sets_hd clB_n clB_n) hw
    rcases T7_skippedMonths_E hT7 with rfl
    · refine lo_catch (name := "java/lang/IndexOutOfBoundsException") E [] (exE (0, 9, 12, 24)) [] (hT.trans rfl) (pass0 ) rfl (by decide) (E.2.2.2.2 _ (List.mem_of_getElem? (i := 1) rfl)) (hV.2.2.2.2.2.2.2 _ (List.mem_of_getElem? (i := 5) rfl)) hx1 hx2 hx3 ?_
      refine W.eq (g2 := F0 m9 12 ls [.ref q9]) rfl ?_
      refine lv_astore_n (lv' := [(3, .ref q9), (0, .ref (ad 0)), (1, .int (iI i)), (2, .ref oa)]) Ex Eb dL_skippedMonths_12 rfl hl (by decide) rfl (fun ls hl => ?_)
      refine lv_iconst (v := iI 1) Ex Eb dL_skippedMonths_13 rfl ?_
      exact lo_iret E hr hlocks hK hA hw dL_skippedMonths_14 rfl ⟨1, Z9, g, Or.inr (⟨rfl, hT7⟩), rfl, rfl⟩
  · obtain ⟨zz, Z9, hF, rfl, rfl⟩ := hq
    have hw : lo_Wd X ((clB X ad pa pb qa qb ra rb ha hb Z9).flatten ++ [arJ cJ oa 1 g]) A9 s9.heap H locs := lo_cast (lo_sets_hd clB_n clB_n) hw
    refine W.eq (g2 := F0 m9 7 ls [.int (iI zz), .int (iI 0), .ref oa]) rfl ?_
    refine lv_i2l Ex Eb dL_skippedMonths_7 rfl ?_
    refine lo_last E hJ hw 145 rfl dL_skippedMonths_8 (fun H locs f hf hw => ?_)
    refine lv_goto Ex Eb dL_skippedMonths_9 rfl ?_
    have hw : lo_Wd X ((clB X ad pa pb qa qb ra rb ha hb Z9).flatten ++ [arJ cJ oa 1 f]) A9 s9.heap H locs := hw
    refine lv_iconst (v := iI 0) Ex Eb dL_skippedMonths_15 rfl ?_
    exact lo_iret E hr hlocks hK hA hw dL_skippedMonths_16 rfl ⟨0, Z9, f, Or.inl ⟨rfl, zz, hF, hf⟩, rfl, rfl⟩
def W7_interestOfPayment (Z : CZ) (i : Int) (k : Int) (kk : Int) (Z9 : CZ) (g9 : Nat → Int64) : Prop := (kk = 0 ∧ ∃ zz : Int, F7_interestOfPayment Z i k zz Z9 ∧ g9 0 = (iI zz).toInt64) ∨ (kk = 1 ∧ T7_interestOfPayment Z i k "java/lang/IndexOutOfBoundsException" Z9) ∨ (kk = 2 ∧ T7_interestOfPayment Z i k "java/lang/IllegalArgumentException" Z9)
theorem T7_interestOfPayment_E {Z Z9 : CZ} {i : Int} {k : Int} {E9 : String} (h : T7_interestOfPayment Z i k E9 Z9) : E9 = "java/lang/IndexOutOfBoundsException" ∨ E9 = "java/lang/IllegalArgumentException" := by
  obtain ⟨A9, f0, -⟩ := h
  first | exact f0.imp (fun q => q.1) (fun q => q.1)
set_option maxHeartbeats 1000000 in
set_option maxRecDepth 100000 in
theorem kL_interestOfPayment (l : Launch) (X : KX) (cJ : ClassId) (kS : Nat → Nat) (hst : l.stackTraces = false) (ad pa pb qa qb ra rb : Nat → Nat) (ha hb : Nat → Nat → Nat) (Z : CZ) (Y : RZ) (hS : SIM Z Y) (i : Int) (k : Int) (hi9 : i32 i) (hk9 : i32 k) (oa : Nat) (g : Nat → Int64) : CL l X cJ kS yL_interestOfPayment wsL_interestOfPayment ({ frames := 8, cells := 2, slots := 12, locals := 144 }) [.ref (ad 0), .int (iI i), .int (iI k), .ref oa] ((clB X ad pa pb qa qb ra rb ha hb Z).flatten ++ [arJ cJ oa 1 g]) (fun v9 w9 => ∃ (kk : Int) (Z9 : CZ) (g9 : Nat → Int64), W7_interestOfPayment Z i k kk Z9 g9 ∧ v9 = some (.int (iI kk)) ∧ w9 = (clB X ad pa pb qa qb ra rb ha hb Z9).flatten ++ [arJ cJ oa 1 g9]) 2 12 := by
  refine lo_enterL (cc := cL_interestOfPayment) (maxL := 5) (ret := some .int) (hh := [(0, 10, 13, 24), (0, 10, 17, 13)]) (lv := [(0, .ref (ad 0)), (1, .int (iI i)), (2, .int (iI k)), (3, .ref oa)]) (by decide) rfl rfl (Nat.le_of_ble_eq_true rfl) ?_
  intro p9 e9 s9 m9 bl9 me9 c9 A9 ls hA E hr hlocks hK hl hw hV hT hJ
  have Ex := E.1
  have Eb := E.2.1
  refine lv_aload_n Ex Eb dL_interestOfPayment_0 rfl (lv_at hl 3 rfl) ?_
  refine lv_iconst (v := iI 0) Ex Eb dL_interestOfPayment_1 rfl ?_
  refine lv_aload_n Ex Eb dL_interestOfPayment_2 rfl (lv_at hl 0 rfl) ?_
  refine lv_iload_n Ex Eb dL_interestOfPayment_3 rfl (lv_at hl 1 rfl) ?_
  refine lv_iload_n Ex Eb dL_interestOfPayment_4 rfl (lv_at hl 2 rfl) ?_
  refine lo_callVT (q0 := 0) (rest := [.int (iI 0), .ref oa]) E hK hw hV (vX7_interestOfPayment l X kS hst ad pa pb qa qb ra rb ha hb Z Y hS i k hi9 hk9) (cwV 2 E.2.2.2.2 gL_interestOfPayment_X7_interestOfPayment rfl rfl rfl (by decide +kernel) ⟨Nat.le_of_ble_eq_true rfl, Nat.le_of_ble_eq_true rfl⟩) rfl rfl (List.range' 0 145) (lo_ps_hd clB_n) (by decide +kernel) hl.1 rfl rfl (Nat.le_of_ble_eq_true rfl) dL_interestOfPayment_5 ⟨Nat.le_of_ble_eq_true rfl, Nat.le_of_ble_eq_true rfl⟩ (fun E9 ce9 q9 w1 H locs hq hw hx1 hx2 hx3 => ?_) (fun v w1 H locs hq hw => ?_)
  · obtain ⟨Z9, hT7, rfl⟩ := hq
    have hw : lo_Wd X ((clB X ad pa pb qa qb ra rb ha hb Z9).flatten ++ [arJ cJ oa 1 g]) A9 s9.heap H locs := lo_cast (lo_sets_hd clB_n clB_n) hw
    rcases T7_interestOfPayment_E hT7 with rfl | rfl
    · refine lo_catch (name := "java/lang/IndexOutOfBoundsException") E [] (exE (0, 10, 13, 24)) [exE (0, 10, 17, 13)] (hT.trans rfl) (pass0 ) rfl (by decide) (E.2.2.2.2 _ (List.mem_of_getElem? (i := 1) rfl)) (hV.2.2.2.2.2.2.2 _ (List.mem_of_getElem? (i := 5) rfl)) hx1 hx2 hx3 ?_
      refine W.eq (g2 := F0 m9 13 ls [.ref q9]) rfl ?_
      refine lv_astore (lv' := [(4, .ref q9), (0, .ref (ad 0)), (1, .int (iI i)), (2, .int (iI k)), (3, .ref oa)]) Ex Eb dL_interestOfPayment_13 hl (by decide) rfl (fun ls hl => ?_)
      refine lv_iconst (v := iI 1) Ex Eb dL_interestOfPayment_15 rfl ?_
      exact lo_iret E hr hlocks hK hA hw dL_interestOfPayment_16 rfl ⟨1, Z9, g, Or.inr (Or.inl ⟨rfl, hT7⟩), rfl, rfl⟩
    · refine lo_catch (name := "java/lang/IllegalArgumentException") E [exE (0, 10, 13, 24)] (exE (0, 10, 17, 13)) [] (hT.trans rfl) (pass1 (Or.inr ⟨by decide, "java/lang/IndexOutOfBoundsException", E.2.2.2.2 _ (List.mem_of_getElem? (i := 1) rfl), hJ.2.2.2⟩)) rfl (by decide) (E.2.2.2.2 _ (List.mem_of_getElem? (i := 2) rfl)) (hV.2.2.2.2.2.2.2 _ (List.mem_of_getElem? (i := 3) rfl)) hx1 hx2 hx3 ?_
      refine W.eq (g2 := F0 m9 17 ls [.ref q9]) rfl ?_
      refine lv_astore (lv' := [(4, .ref q9), (0, .ref (ad 0)), (1, .int (iI i)), (2, .int (iI k)), (3, .ref oa)]) Ex Eb dL_interestOfPayment_17 hl (by decide) rfl (fun ls hl => ?_)
      refine lv_iconst (v := iI 2) Ex Eb dL_interestOfPayment_19 rfl ?_
      exact lo_iret E hr hlocks hK hA hw dL_interestOfPayment_20 rfl ⟨2, Z9, g, Or.inr (Or.inr (⟨rfl, hT7⟩)), rfl, rfl⟩
  · obtain ⟨zz, Z9, hF, rfl, rfl⟩ := hq
    have hw : lo_Wd X ((clB X ad pa pb qa qb ra rb ha hb Z9).flatten ++ [arJ cJ oa 1 g]) A9 s9.heap H locs := lo_cast (lo_sets_hd clB_n clB_n) hw
    refine W.eq (g2 := F0 m9 8 ls [.int (iI zz), .int (iI 0), .ref oa]) rfl ?_
    refine lv_i2l Ex Eb dL_interestOfPayment_8 rfl ?_
    refine lo_last E hJ hw 145 rfl dL_interestOfPayment_9 (fun H locs f hf hw => ?_)
    refine lv_goto Ex Eb dL_interestOfPayment_10 rfl ?_
    have hw : lo_Wd X ((clB X ad pa pb qa qb ra rb ha hb Z9).flatten ++ [arJ cJ oa 1 f]) A9 s9.heap H locs := hw
    refine lv_iconst (v := iI 0) Ex Eb dL_interestOfPayment_21 rfl ?_
    exact lo_iret E hr hlocks hK hA hw dL_interestOfPayment_22 rfl ⟨0, Z9, f, Or.inl ⟨rfl, zz, hF, hf⟩, rfl, rfl⟩
def W7_amountOfPayment (Z : CZ) (i : Int) (k : Int) (kk : Int) (Z9 : CZ) (g9 : Nat → Int64) : Prop := (kk = 0 ∧ ∃ zz : Int, F7_amountOfPayment Z i k zz Z9 ∧ g9 0 = (iI zz).toInt64) ∨ (kk = 1 ∧ T7_amountOfPayment Z i k "java/lang/IndexOutOfBoundsException" Z9) ∨ (kk = 2 ∧ T7_amountOfPayment Z i k "java/lang/IllegalArgumentException" Z9)
theorem T7_amountOfPayment_E {Z Z9 : CZ} {i : Int} {k : Int} {E9 : String} (h : T7_amountOfPayment Z i k E9 Z9) : E9 = "java/lang/IndexOutOfBoundsException" ∨ E9 = "java/lang/IllegalArgumentException" := by
  obtain ⟨A9, f0, -⟩ := h
  first | exact f0.imp (fun q => q.1) (fun q => q.1)
set_option maxHeartbeats 1000000 in
set_option maxRecDepth 100000 in
theorem kL_amountOfPayment (l : Launch) (X : KX) (cJ : ClassId) (kS : Nat → Nat) (hst : l.stackTraces = false) (ad pa pb qa qb ra rb : Nat → Nat) (ha hb : Nat → Nat → Nat) (Z : CZ) (Y : RZ) (hS : SIM Z Y) (i : Int) (k : Int) (hi9 : i32 i) (hk9 : i32 k) (oa : Nat) (g : Nat → Int64) : CL l X cJ kS yL_amountOfPayment wsL_amountOfPayment ({ frames := 8, cells := 2, slots := 12, locals := 144 }) [.ref (ad 0), .int (iI i), .int (iI k), .ref oa] ((clB X ad pa pb qa qb ra rb ha hb Z).flatten ++ [arJ cJ oa 1 g]) (fun v9 w9 => ∃ (kk : Int) (Z9 : CZ) (g9 : Nat → Int64), W7_amountOfPayment Z i k kk Z9 g9 ∧ v9 = some (.int (iI kk)) ∧ w9 = (clB X ad pa pb qa qb ra rb ha hb Z9).flatten ++ [arJ cJ oa 1 g9]) 2 12 := by
  refine lo_enterL (cc := cL_amountOfPayment) (maxL := 5) (ret := some .int) (hh := [(0, 10, 13, 24), (0, 10, 17, 13)]) (lv := [(0, .ref (ad 0)), (1, .int (iI i)), (2, .int (iI k)), (3, .ref oa)]) (by decide) rfl rfl (Nat.le_of_ble_eq_true rfl) ?_
  intro p9 e9 s9 m9 bl9 me9 c9 A9 ls hA E hr hlocks hK hl hw hV hT hJ
  have Ex := E.1
  have Eb := E.2.1
  refine lv_aload_n Ex Eb dL_amountOfPayment_0 rfl (lv_at hl 3 rfl) ?_
  refine lv_iconst (v := iI 0) Ex Eb dL_amountOfPayment_1 rfl ?_
  refine lv_aload_n Ex Eb dL_amountOfPayment_2 rfl (lv_at hl 0 rfl) ?_
  refine lv_iload_n Ex Eb dL_amountOfPayment_3 rfl (lv_at hl 1 rfl) ?_
  refine lv_iload_n Ex Eb dL_amountOfPayment_4 rfl (lv_at hl 2 rfl) ?_
  refine lo_callVT (q0 := 0) (rest := [.int (iI 0), .ref oa]) E hK hw hV (vX7_amountOfPayment l X kS hst ad pa pb qa qb ra rb ha hb Z Y hS i k hi9 hk9) (cwV 2 E.2.2.2.2 gL_amountOfPayment_X7_amountOfPayment rfl rfl rfl (by decide +kernel) ⟨Nat.le_of_ble_eq_true rfl, Nat.le_of_ble_eq_true rfl⟩) rfl rfl (List.range' 0 145) (lo_ps_hd clB_n) (by decide +kernel) hl.1 rfl rfl (Nat.le_of_ble_eq_true rfl) dL_amountOfPayment_5 ⟨Nat.le_of_ble_eq_true rfl, Nat.le_of_ble_eq_true rfl⟩ (fun E9 ce9 q9 w1 H locs hq hw hx1 hx2 hx3 => ?_) (fun v w1 H locs hq hw => ?_)
  · obtain ⟨Z9, hT7, rfl⟩ := hq
    have hw : lo_Wd X ((clB X ad pa pb qa qb ra rb ha hb Z9).flatten ++ [arJ cJ oa 1 g]) A9 s9.heap H locs := lo_cast (lo_sets_hd clB_n clB_n) hw
    rcases T7_amountOfPayment_E hT7 with rfl | rfl
    · refine lo_catch (name := "java/lang/IndexOutOfBoundsException") E [] (exE (0, 10, 13, 24)) [exE (0, 10, 17, 13)] (hT.trans rfl) (pass0 ) rfl (by decide) (E.2.2.2.2 _ (List.mem_of_getElem? (i := 1) rfl)) (hV.2.2.2.2.2.2.2 _ (List.mem_of_getElem? (i := 5) rfl)) hx1 hx2 hx3 ?_
      refine W.eq (g2 := F0 m9 13 ls [.ref q9]) rfl ?_
      refine lv_astore (lv' := [(4, .ref q9), (0, .ref (ad 0)), (1, .int (iI i)), (2, .int (iI k)), (3, .ref oa)]) Ex Eb dL_amountOfPayment_13 hl (by decide) rfl (fun ls hl => ?_)
      refine lv_iconst (v := iI 1) Ex Eb dL_amountOfPayment_15 rfl ?_
      exact lo_iret E hr hlocks hK hA hw dL_amountOfPayment_16 rfl ⟨1, Z9, g, Or.inr (Or.inl ⟨rfl, hT7⟩), rfl, rfl⟩
    · refine lo_catch (name := "java/lang/IllegalArgumentException") E [exE (0, 10, 13, 24)] (exE (0, 10, 17, 13)) [] (hT.trans rfl) (pass1 (Or.inr ⟨by decide, "java/lang/IndexOutOfBoundsException", E.2.2.2.2 _ (List.mem_of_getElem? (i := 1) rfl), hJ.2.2.2⟩)) rfl (by decide) (E.2.2.2.2 _ (List.mem_of_getElem? (i := 2) rfl)) (hV.2.2.2.2.2.2.2 _ (List.mem_of_getElem? (i := 3) rfl)) hx1 hx2 hx3 ?_
      refine W.eq (g2 := F0 m9 17 ls [.ref q9]) rfl ?_
      refine lv_astore (lv' := [(4, .ref q9), (0, .ref (ad 0)), (1, .int (iI i)), (2, .int (iI k)), (3, .ref oa)]) Ex Eb dL_amountOfPayment_17 hl (by decide) rfl (fun ls hl => ?_)
      refine lv_iconst (v := iI 2) Ex Eb dL_amountOfPayment_19 rfl ?_
      exact lo_iret E hr hlocks hK hA hw dL_amountOfPayment_20 rfl ⟨2, Z9, g, Or.inr (Or.inr (⟨rfl, hT7⟩)), rfl, rfl⟩
  · obtain ⟨zz, Z9, hF, rfl, rfl⟩ := hq
    have hw : lo_Wd X ((clB X ad pa pb qa qb ra rb ha hb Z9).flatten ++ [arJ cJ oa 1 g]) A9 s9.heap H locs := lo_cast (lo_sets_hd clB_n clB_n) hw
    refine W.eq (g2 := F0 m9 8 ls [.int (iI zz), .int (iI 0), .ref oa]) rfl ?_
    refine lv_i2l Ex Eb dL_amountOfPayment_8 rfl ?_
    refine lo_last E hJ hw 145 rfl dL_amountOfPayment_9 (fun H locs f hf hw => ?_)
    refine lv_goto Ex Eb dL_amountOfPayment_10 rfl ?_
    have hw : lo_Wd X ((clB X ad pa pb qa qb ra rb ha hb Z9).flatten ++ [arJ cJ oa 1 f]) A9 s9.heap H locs := hw
    refine lv_iconst (v := iI 0) Ex Eb dL_amountOfPayment_21 rfl ?_
    exact lo_iret E hr hlocks hK hA hw dL_amountOfPayment_22 rfl ⟨0, Z9, f, Or.inl ⟨rfl, zz, hF, hf⟩, rfl, rfl⟩
def W7_paymentsTo (Z : CZ) (i : Int) (k : Int) (kk : Int) (Z9 : CZ) (g9 : Nat → Int64) : Prop := (kk = 0 ∧ ∃ zz : Int, F7_paymentsTo Z i k zz Z9 ∧ g9 0 = (iI zz).toInt64) ∨ (kk = 1 ∧ T7_paymentsTo Z i k "java/lang/IndexOutOfBoundsException" Z9) ∨ (kk = 2 ∧ T7_paymentsTo Z i k "java/lang/IllegalArgumentException" Z9)
theorem T7_paymentsTo_E {Z Z9 : CZ} {i : Int} {k : Int} {E9 : String} (h : T7_paymentsTo Z i k E9 Z9) : E9 = "java/lang/IndexOutOfBoundsException" ∨ E9 = "java/lang/IllegalArgumentException" := by
  obtain ⟨f0, -⟩ := h
  first | exact f0.imp (fun q => q.1) (fun q => q.1)
set_option maxHeartbeats 1000000 in
set_option maxRecDepth 100000 in
theorem kL_paymentsTo (l : Launch) (X : KX) (cJ : ClassId) (kS : Nat → Nat) (hst : l.stackTraces = false) (ad pa pb qa qb ra rb : Nat → Nat) (ha hb : Nat → Nat → Nat) (Z : CZ) (Y : RZ) (hS : SIM Z Y) (i : Int) (k : Int) (hi9 : i32 i) (hk9 : i32 k) (oa : Nat) (g : Nat → Int64) : CL l X cJ kS yL_paymentsTo wsL_paymentsTo ({ frames := 8, cells := 2, slots := 12, locals := 145 }) [.ref (ad 0), .int (iI i), .int (iI k), .ref oa] ((clB X ad pa pb qa qb ra rb ha hb Z).flatten ++ [arJ cJ oa 1 g]) (fun v9 w9 => ∃ (kk : Int) (Z9 : CZ) (g9 : Nat → Int64), W7_paymentsTo Z i k kk Z9 g9 ∧ v9 = some (.int (iI kk)) ∧ w9 = (clB X ad pa pb qa qb ra rb ha hb Z9).flatten ++ [arJ cJ oa 1 g9]) 2 12 := by
  refine lo_enterL (cc := cL_paymentsTo) (maxL := 5) (ret := some .int) (hh := [(0, 10, 13, 24), (0, 10, 17, 13)]) (lv := [(0, .ref (ad 0)), (1, .int (iI i)), (2, .int (iI k)), (3, .ref oa)]) (by decide) rfl rfl (Nat.le_of_ble_eq_true rfl) ?_
  intro p9 e9 s9 m9 bl9 me9 c9 A9 ls hA E hr hlocks hK hl hw hV hT hJ
  have Ex := E.1
  have Eb := E.2.1
  refine lv_aload_n Ex Eb dL_paymentsTo_0 rfl (lv_at hl 3 rfl) ?_
  refine lv_iconst (v := iI 0) Ex Eb dL_paymentsTo_1 rfl ?_
  refine lv_aload_n Ex Eb dL_paymentsTo_2 rfl (lv_at hl 0 rfl) ?_
  refine lv_iload_n Ex Eb dL_paymentsTo_3 rfl (lv_at hl 1 rfl) ?_
  refine lv_iload_n Ex Eb dL_paymentsTo_4 rfl (lv_at hl 2 rfl) ?_
  refine lo_callVT (q0 := 0) (rest := [.int (iI 0), .ref oa]) E hK hw hV (vX7_paymentsTo l X kS hst ad pa pb qa qb ra rb ha hb Z Y hS i k hi9 hk9) (cwV 2 E.2.2.2.2 gL_paymentsTo_X7_paymentsTo rfl rfl rfl (by decide +kernel) ⟨Nat.le_of_ble_eq_true rfl, Nat.le_of_ble_eq_true rfl⟩) rfl rfl (List.range' 0 145) (lo_ps_hd clB_n) (by decide +kernel) hl.1 rfl rfl (Nat.le_of_ble_eq_true rfl) dL_paymentsTo_5 ⟨Nat.le_of_ble_eq_true rfl, Nat.le_of_ble_eq_true rfl⟩ (fun E9 ce9 q9 w1 H locs hq hw hx1 hx2 hx3 => ?_) (fun v w1 H locs hq hw => ?_)
  · obtain ⟨Z9, hT7, rfl⟩ := hq
    have hw : lo_Wd X ((clB X ad pa pb qa qb ra rb ha hb Z9).flatten ++ [arJ cJ oa 1 g]) A9 s9.heap H locs := lo_cast (lo_sets_hd clB_n clB_n) hw
    rcases T7_paymentsTo_E hT7 with rfl | rfl
    · refine lo_catch (name := "java/lang/IndexOutOfBoundsException") E [] (exE (0, 10, 13, 24)) [exE (0, 10, 17, 13)] (hT.trans rfl) (pass0 ) rfl (by decide) (E.2.2.2.2 _ (List.mem_of_getElem? (i := 1) rfl)) (hV.2.2.2.2.2.2.2 _ (List.mem_of_getElem? (i := 5) rfl)) hx1 hx2 hx3 ?_
      refine W.eq (g2 := F0 m9 13 ls [.ref q9]) rfl ?_
      refine lv_astore (lv' := [(4, .ref q9), (0, .ref (ad 0)), (1, .int (iI i)), (2, .int (iI k)), (3, .ref oa)]) Ex Eb dL_paymentsTo_13 hl (by decide) rfl (fun ls hl => ?_)
      refine lv_iconst (v := iI 1) Ex Eb dL_paymentsTo_15 rfl ?_
      exact lo_iret E hr hlocks hK hA hw dL_paymentsTo_16 rfl ⟨1, Z9, g, Or.inr (Or.inl ⟨rfl, hT7⟩), rfl, rfl⟩
    · refine lo_catch (name := "java/lang/IllegalArgumentException") E [exE (0, 10, 13, 24)] (exE (0, 10, 17, 13)) [] (hT.trans rfl) (pass1 (Or.inr ⟨by decide, "java/lang/IndexOutOfBoundsException", E.2.2.2.2 _ (List.mem_of_getElem? (i := 1) rfl), hJ.2.2.2⟩)) rfl (by decide) (E.2.2.2.2 _ (List.mem_of_getElem? (i := 2) rfl)) (hV.2.2.2.2.2.2.2 _ (List.mem_of_getElem? (i := 3) rfl)) hx1 hx2 hx3 ?_
      refine W.eq (g2 := F0 m9 17 ls [.ref q9]) rfl ?_
      refine lv_astore (lv' := [(4, .ref q9), (0, .ref (ad 0)), (1, .int (iI i)), (2, .int (iI k)), (3, .ref oa)]) Ex Eb dL_paymentsTo_17 hl (by decide) rfl (fun ls hl => ?_)
      refine lv_iconst (v := iI 2) Ex Eb dL_paymentsTo_19 rfl ?_
      exact lo_iret E hr hlocks hK hA hw dL_paymentsTo_20 rfl ⟨2, Z9, g, Or.inr (Or.inr (⟨rfl, hT7⟩)), rfl, rfl⟩
  · obtain ⟨zz, Z9, hF, rfl, rfl⟩ := hq
    have hw : lo_Wd X ((clB X ad pa pb qa qb ra rb ha hb Z9).flatten ++ [arJ cJ oa 1 g]) A9 s9.heap H locs := lo_cast (lo_sets_hd clB_n clB_n) hw
    refine W.eq (g2 := F0 m9 8 ls [.int (iI zz), .int (iI 0), .ref oa]) rfl ?_
    refine lv_i2l Ex Eb dL_paymentsTo_8 rfl ?_
    refine lo_last E hJ hw 145 rfl dL_paymentsTo_9 (fun H locs f hf hw => ?_)
    refine lv_goto Ex Eb dL_paymentsTo_10 rfl ?_
    have hw : lo_Wd X ((clB X ad pa pb qa qb ra rb ha hb Z9).flatten ++ [arJ cJ oa 1 f]) A9 s9.heap H locs := hw
    refine lv_iconst (v := iI 0) Ex Eb dL_paymentsTo_21 rfl ?_
    exact lo_iret E hr hlocks hK hA hw dL_paymentsTo_22 rfl ⟨0, Z9, f, Or.inl ⟨rfl, zz, hF, hf⟩, rfl, rfl⟩
def W7_balanceAfter (Z : CZ) (i : Int) (k : Int) (kk : Int) (Z9 : CZ) (g9 : Nat → Int64) : Prop := (kk = 0 ∧ ∃ zz : Int, F7_balanceAfter Z i k zz Z9 ∧ g9 0 = (iI zz).toInt64) ∨ (kk = 1 ∧ T7_balanceAfter Z i k "java/lang/IndexOutOfBoundsException" Z9) ∨ (kk = 2 ∧ T7_balanceAfter Z i k "java/lang/IllegalArgumentException" Z9)
theorem T7_balanceAfter_E {Z Z9 : CZ} {i : Int} {k : Int} {E9 : String} (h : T7_balanceAfter Z i k E9 Z9) : E9 = "java/lang/IndexOutOfBoundsException" ∨ E9 = "java/lang/IllegalArgumentException" := by
  obtain ⟨A9, f0, -⟩ := h
  first | exact f0.imp (fun q => q.1) (fun q => q.1)
set_option maxHeartbeats 1000000 in
set_option maxRecDepth 100000 in
theorem kL_balanceAfter (l : Launch) (X : KX) (cJ : ClassId) (kS : Nat → Nat) (hst : l.stackTraces = false) (ad pa pb qa qb ra rb : Nat → Nat) (ha hb : Nat → Nat → Nat) (Z : CZ) (Y : RZ) (hS : SIM Z Y) (i : Int) (k : Int) (hi9 : i32 i) (hk9 : i32 k) (oa : Nat) (g : Nat → Int64) : CL l X cJ kS yL_balanceAfter wsL_balanceAfter ({ frames := 8, cells := 2, slots := 12, locals := 144 }) [.ref (ad 0), .int (iI i), .int (iI k), .ref oa] ((clB X ad pa pb qa qb ra rb ha hb Z).flatten ++ [arJ cJ oa 1 g]) (fun v9 w9 => ∃ (kk : Int) (Z9 : CZ) (g9 : Nat → Int64), W7_balanceAfter Z i k kk Z9 g9 ∧ v9 = some (.int (iI kk)) ∧ w9 = (clB X ad pa pb qa qb ra rb ha hb Z9).flatten ++ [arJ cJ oa 1 g9]) 2 12 := by
  refine lo_enterL (cc := cL_balanceAfter) (maxL := 5) (ret := some .int) (hh := [(0, 10, 13, 24), (0, 10, 17, 13)]) (lv := [(0, .ref (ad 0)), (1, .int (iI i)), (2, .int (iI k)), (3, .ref oa)]) (by decide) rfl rfl (Nat.le_of_ble_eq_true rfl) ?_
  intro p9 e9 s9 m9 bl9 me9 c9 A9 ls hA E hr hlocks hK hl hw hV hT hJ
  have Ex := E.1
  have Eb := E.2.1
  refine lv_aload_n Ex Eb dL_balanceAfter_0 rfl (lv_at hl 3 rfl) ?_
  refine lv_iconst (v := iI 0) Ex Eb dL_balanceAfter_1 rfl ?_
  refine lv_aload_n Ex Eb dL_balanceAfter_2 rfl (lv_at hl 0 rfl) ?_
  refine lv_iload_n Ex Eb dL_balanceAfter_3 rfl (lv_at hl 1 rfl) ?_
  refine lv_iload_n Ex Eb dL_balanceAfter_4 rfl (lv_at hl 2 rfl) ?_
  refine lo_callVT (q0 := 0) (rest := [.int (iI 0), .ref oa]) E hK hw hV (vX7_balanceAfter l X kS hst ad pa pb qa qb ra rb ha hb Z Y hS i k hi9 hk9) (cwV 2 E.2.2.2.2 gL_balanceAfter_X7_balanceAfter rfl rfl rfl (by decide +kernel) ⟨Nat.le_of_ble_eq_true rfl, Nat.le_of_ble_eq_true rfl⟩) rfl rfl (List.range' 0 145) (lo_ps_hd clB_n) (by decide +kernel) hl.1 rfl rfl (Nat.le_of_ble_eq_true rfl) dL_balanceAfter_5 ⟨Nat.le_of_ble_eq_true rfl, Nat.le_of_ble_eq_true rfl⟩ (fun E9 ce9 q9 w1 H locs hq hw hx1 hx2 hx3 => ?_) (fun v w1 H locs hq hw => ?_)
  · obtain ⟨Z9, hT7, rfl⟩ := hq
    have hw : lo_Wd X ((clB X ad pa pb qa qb ra rb ha hb Z9).flatten ++ [arJ cJ oa 1 g]) A9 s9.heap H locs := lo_cast (lo_sets_hd clB_n clB_n) hw
    rcases T7_balanceAfter_E hT7 with rfl | rfl
    · refine lo_catch (name := "java/lang/IndexOutOfBoundsException") E [] (exE (0, 10, 13, 24)) [exE (0, 10, 17, 13)] (hT.trans rfl) (pass0 ) rfl (by decide) (E.2.2.2.2 _ (List.mem_of_getElem? (i := 1) rfl)) (hV.2.2.2.2.2.2.2 _ (List.mem_of_getElem? (i := 5) rfl)) hx1 hx2 hx3 ?_
      refine W.eq (g2 := F0 m9 13 ls [.ref q9]) rfl ?_
      refine lv_astore (lv' := [(4, .ref q9), (0, .ref (ad 0)), (1, .int (iI i)), (2, .int (iI k)), (3, .ref oa)]) Ex Eb dL_balanceAfter_13 hl (by decide) rfl (fun ls hl => ?_)
      refine lv_iconst (v := iI 1) Ex Eb dL_balanceAfter_15 rfl ?_
      exact lo_iret E hr hlocks hK hA hw dL_balanceAfter_16 rfl ⟨1, Z9, g, Or.inr (Or.inl ⟨rfl, hT7⟩), rfl, rfl⟩
    · refine lo_catch (name := "java/lang/IllegalArgumentException") E [exE (0, 10, 13, 24)] (exE (0, 10, 17, 13)) [] (hT.trans rfl) (pass1 (Or.inr ⟨by decide, "java/lang/IndexOutOfBoundsException", E.2.2.2.2 _ (List.mem_of_getElem? (i := 1) rfl), hJ.2.2.2⟩)) rfl (by decide) (E.2.2.2.2 _ (List.mem_of_getElem? (i := 2) rfl)) (hV.2.2.2.2.2.2.2 _ (List.mem_of_getElem? (i := 3) rfl)) hx1 hx2 hx3 ?_
      refine W.eq (g2 := F0 m9 17 ls [.ref q9]) rfl ?_
      refine lv_astore (lv' := [(4, .ref q9), (0, .ref (ad 0)), (1, .int (iI i)), (2, .int (iI k)), (3, .ref oa)]) Ex Eb dL_balanceAfter_17 hl (by decide) rfl (fun ls hl => ?_)
      refine lv_iconst (v := iI 2) Ex Eb dL_balanceAfter_19 rfl ?_
      exact lo_iret E hr hlocks hK hA hw dL_balanceAfter_20 rfl ⟨2, Z9, g, Or.inr (Or.inr (⟨rfl, hT7⟩)), rfl, rfl⟩
  · obtain ⟨zz, Z9, hF, rfl, rfl⟩ := hq
    have hw : lo_Wd X ((clB X ad pa pb qa qb ra rb ha hb Z9).flatten ++ [arJ cJ oa 1 g]) A9 s9.heap H locs := lo_cast (lo_sets_hd clB_n clB_n) hw
    refine W.eq (g2 := F0 m9 8 ls [.int (iI zz), .int (iI 0), .ref oa]) rfl ?_
    refine lv_i2l Ex Eb dL_balanceAfter_8 rfl ?_
    refine lo_last E hJ hw 145 rfl dL_balanceAfter_9 (fun H locs f hf hw => ?_)
    refine lv_goto Ex Eb dL_balanceAfter_10 rfl ?_
    have hw : lo_Wd X ((clB X ad pa pb qa qb ra rb ha hb Z9).flatten ++ [arJ cJ oa 1 f]) A9 s9.heap H locs := hw
    refine lv_iconst (v := iI 0) Ex Eb dL_balanceAfter_21 rfl ?_
    exact lo_iret E hr hlocks hK hA hw dL_balanceAfter_22 rfl ⟨0, Z9, f, Or.inl ⟨rfl, zz, hF, hf⟩, rfl, rfl⟩
def W7_interestAhead (Z : CZ) (i : Int) (kk : Int) (Z9 : CZ) (g9 : Nat → Int64) : Prop := (kk = 0 ∧ ∃ zz : Int, F7_interestAhead Z i zz Z9 ∧ g9 0 = (iI zz).toInt64) ∨ (kk = 1 ∧ T7_interestAhead Z i "java/lang/IndexOutOfBoundsException" Z9)
theorem T7_interestAhead_E {Z Z9 : CZ} {i : Int} {E9 : String} (h : T7_interestAhead Z i E9 Z9) : E9 = "java/lang/IndexOutOfBoundsException" := by
  obtain ⟨f0, f1, -⟩ := h
  first | exact f0 | exact f0.1
set_option maxHeartbeats 1000000 in
set_option maxRecDepth 100000 in
theorem kL_interestAhead (l : Launch) (X : KX) (cJ : ClassId) (kS : Nat → Nat) (hst : l.stackTraces = false) (ad pa pb qa qb ra rb : Nat → Nat) (ha hb : Nat → Nat → Nat) (Z : CZ) (Y : RZ) (hS : SIM Z Y) (i : Int) (hi9 : i32 i) (oa : Nat) (g : Nat → Int64) : CL l X cJ kS yL_interestAhead wsL_interestAhead ({ frames := 8, cells := 1, slots := 6, locals := 142 }) [.ref (ad 0), .int (iI i), .ref oa] ((clB X ad pa pb qa qb ra rb ha hb Z).flatten ++ [arJ cJ oa 1 g]) (fun v9 w9 => ∃ (kk : Int) (Z9 : CZ) (g9 : Nat → Int64), W7_interestAhead Z i kk Z9 g9 ∧ v9 = some (.int (iI kk)) ∧ w9 = (clB X ad pa pb qa qb ra rb ha hb Z9).flatten ++ [arJ cJ oa 1 g9]) 1 6 := by
  refine lo_enterL (cc := cL_interestAhead) (maxL := 4) (ret := some .int) (hh := [(0, 9, 12, 24)]) (lv := [(0, .ref (ad 0)), (1, .int (iI i)), (2, .ref oa)]) (by decide) rfl rfl (Nat.le_of_ble_eq_true rfl) ?_
  intro p9 e9 s9 m9 bl9 me9 c9 A9 ls hA E hr hlocks hK hl hw hV hT hJ
  have Ex := E.1
  have Eb := E.2.1
  refine lv_aload_n Ex Eb dL_interestAhead_0 rfl (lv_at hl 2 rfl) ?_
  refine lv_iconst (v := iI 0) Ex Eb dL_interestAhead_1 rfl ?_
  refine lv_aload_n Ex Eb dL_interestAhead_2 rfl (lv_at hl 0 rfl) ?_
  refine lv_iload_n Ex Eb dL_interestAhead_3 rfl (lv_at hl 1 rfl) ?_
  refine lo_callVT (q0 := 0) (rest := [.int (iI 0), .ref oa]) E hK hw hV (vX7_interestAhead l X kS hst ad pa pb qa qb ra rb ha hb Z Y hS i hi9) (cwV 1 E.2.2.2.2 gL_interestAhead_X7_interestAhead rfl rfl rfl (by decide +kernel) ⟨Nat.le_of_ble_eq_true rfl, Nat.le_of_ble_eq_true rfl⟩) rfl rfl (List.range' 0 145) (lo_ps_hd clB_n) (by decide +kernel) hl.1 rfl rfl (Nat.le_of_ble_eq_true rfl) dL_interestAhead_4 ⟨Nat.le_of_ble_eq_true rfl, Nat.le_of_ble_eq_true rfl⟩ (fun E9 ce9 q9 w1 H locs hq hw hx1 hx2 hx3 => ?_) (fun v w1 H locs hq hw => ?_)
  · obtain ⟨Z9, hT7, rfl⟩ := hq
    have hw : lo_Wd X ((clB X ad pa pb qa qb ra rb ha hb Z9).flatten ++ [arJ cJ oa 1 g]) A9 s9.heap H locs := lo_cast (lo_sets_hd clB_n clB_n) hw
    rcases T7_interestAhead_E hT7 with rfl
    · refine lo_catch (name := "java/lang/IndexOutOfBoundsException") E [] (exE (0, 9, 12, 24)) [] (hT.trans rfl) (pass0 ) rfl (by decide) (E.2.2.2.2 _ (List.mem_of_getElem? (i := 1) rfl)) (hV.2.2.2.2.2.2.2 _ (List.mem_of_getElem? (i := 5) rfl)) hx1 hx2 hx3 ?_
      refine W.eq (g2 := F0 m9 12 ls [.ref q9]) rfl ?_
      refine lv_astore_n (lv' := [(3, .ref q9), (0, .ref (ad 0)), (1, .int (iI i)), (2, .ref oa)]) Ex Eb dL_interestAhead_12 rfl hl (by decide) rfl (fun ls hl => ?_)
      refine lv_iconst (v := iI 1) Ex Eb dL_interestAhead_13 rfl ?_
      exact lo_iret E hr hlocks hK hA hw dL_interestAhead_14 rfl ⟨1, Z9, g, Or.inr (⟨rfl, hT7⟩), rfl, rfl⟩
  · obtain ⟨zz, Z9, hF, rfl, rfl⟩ := hq
    have hw : lo_Wd X ((clB X ad pa pb qa qb ra rb ha hb Z9).flatten ++ [arJ cJ oa 1 g]) A9 s9.heap H locs := lo_cast (lo_sets_hd clB_n clB_n) hw
    refine W.eq (g2 := F0 m9 7 ls [.int (iI zz), .int (iI 0), .ref oa]) rfl ?_
    refine lv_i2l Ex Eb dL_interestAhead_7 rfl ?_
    refine lo_last E hJ hw 145 rfl dL_interestAhead_8 (fun H locs f hf hw => ?_)
    refine lv_goto Ex Eb dL_interestAhead_9 rfl ?_
    have hw : lo_Wd X ((clB X ad pa pb qa qb ra rb ha hb Z9).flatten ++ [arJ cJ oa 1 f]) A9 s9.heap H locs := hw
    refine lv_iconst (v := iI 0) Ex Eb dL_interestAhead_15 rfl ?_
    exact lo_iret E hr hlocks hK hA hw dL_interestAhead_16 rfl ⟨0, Z9, f, Or.inl ⟨rfl, zz, hF, hf⟩, rfl, rfl⟩
def W7_lastDue (Z : CZ) (i : Int) (kk : Int) (Z9 : CZ) (g9 : Nat → Int64) : Prop := (kk = 0 ∧ ∃ zz : Int, F7_lastDue Z i zz Z9 ∧ g9 0 = (iI zz).toInt64) ∨ (kk = 1 ∧ T7_lastDue Z i "java/lang/IndexOutOfBoundsException" Z9)
theorem T7_lastDue_E {Z Z9 : CZ} {i : Int} {E9 : String} (h : T7_lastDue Z i E9 Z9) : E9 = "java/lang/IndexOutOfBoundsException" := by
  obtain ⟨f0, f1, -⟩ := h
  first | exact f0 | exact f0.1
set_option maxHeartbeats 1000000 in
set_option maxRecDepth 100000 in
theorem kL_lastDue (l : Launch) (X : KX) (cJ : ClassId) (kS : Nat → Nat) (hst : l.stackTraces = false) (ad pa pb qa qb ra rb : Nat → Nat) (ha hb : Nat → Nat → Nat) (Z : CZ) (Y : RZ) (hS : SIM Z Y) (i : Int) (hi9 : i32 i) (oa : Nat) (g : Nat → Int64) : CL l X cJ kS yL_lastDue wsL_lastDue ({ frames := 8, cells := 1, slots := 6, locals := 142 }) [.ref (ad 0), .int (iI i), .ref oa] ((clB X ad pa pb qa qb ra rb ha hb Z).flatten ++ [arJ cJ oa 1 g]) (fun v9 w9 => ∃ (kk : Int) (Z9 : CZ) (g9 : Nat → Int64), W7_lastDue Z i kk Z9 g9 ∧ v9 = some (.int (iI kk)) ∧ w9 = (clB X ad pa pb qa qb ra rb ha hb Z9).flatten ++ [arJ cJ oa 1 g9]) 1 6 := by
  refine lo_enterL (cc := cL_lastDue) (maxL := 4) (ret := some .int) (hh := [(0, 9, 12, 24)]) (lv := [(0, .ref (ad 0)), (1, .int (iI i)), (2, .ref oa)]) (by decide) rfl rfl (Nat.le_of_ble_eq_true rfl) ?_
  intro p9 e9 s9 m9 bl9 me9 c9 A9 ls hA E hr hlocks hK hl hw hV hT hJ
  have Ex := E.1
  have Eb := E.2.1
  refine lv_aload_n Ex Eb dL_lastDue_0 rfl (lv_at hl 2 rfl) ?_
  refine lv_iconst (v := iI 0) Ex Eb dL_lastDue_1 rfl ?_
  refine lv_aload_n Ex Eb dL_lastDue_2 rfl (lv_at hl 0 rfl) ?_
  refine lv_iload_n Ex Eb dL_lastDue_3 rfl (lv_at hl 1 rfl) ?_
  refine lo_callVT (q0 := 0) (rest := [.int (iI 0), .ref oa]) E hK hw hV (vX7_lastDue l X kS hst ad pa pb qa qb ra rb ha hb Z Y hS i hi9) (cwV 1 E.2.2.2.2 gL_lastDue_X7_lastDue rfl rfl rfl (by decide +kernel) ⟨Nat.le_of_ble_eq_true rfl, Nat.le_of_ble_eq_true rfl⟩) rfl rfl (List.range' 0 145) (lo_ps_hd clB_n) (by decide +kernel) hl.1 rfl rfl (Nat.le_of_ble_eq_true rfl) dL_lastDue_4 ⟨Nat.le_of_ble_eq_true rfl, Nat.le_of_ble_eq_true rfl⟩ (fun E9 ce9 q9 w1 H locs hq hw hx1 hx2 hx3 => ?_) (fun v w1 H locs hq hw => ?_)
  · obtain ⟨Z9, hT7, rfl⟩ := hq
    have hw : lo_Wd X ((clB X ad pa pb qa qb ra rb ha hb Z9).flatten ++ [arJ cJ oa 1 g]) A9 s9.heap H locs := lo_cast (lo_sets_hd clB_n clB_n) hw
    rcases T7_lastDue_E hT7 with rfl
    · refine lo_catch (name := "java/lang/IndexOutOfBoundsException") E [] (exE (0, 9, 12, 24)) [] (hT.trans rfl) (pass0 ) rfl (by decide) (E.2.2.2.2 _ (List.mem_of_getElem? (i := 1) rfl)) (hV.2.2.2.2.2.2.2 _ (List.mem_of_getElem? (i := 5) rfl)) hx1 hx2 hx3 ?_
      refine W.eq (g2 := F0 m9 12 ls [.ref q9]) rfl ?_
      refine lv_astore_n (lv' := [(3, .ref q9), (0, .ref (ad 0)), (1, .int (iI i)), (2, .ref oa)]) Ex Eb dL_lastDue_12 rfl hl (by decide) rfl (fun ls hl => ?_)
      refine lv_iconst (v := iI 1) Ex Eb dL_lastDue_13 rfl ?_
      exact lo_iret E hr hlocks hK hA hw dL_lastDue_14 rfl ⟨1, Z9, g, Or.inr (⟨rfl, hT7⟩), rfl, rfl⟩
  · obtain ⟨zz, Z9, hF, rfl, rfl⟩ := hq
    have hw : lo_Wd X ((clB X ad pa pb qa qb ra rb ha hb Z9).flatten ++ [arJ cJ oa 1 g]) A9 s9.heap H locs := lo_cast (lo_sets_hd clB_n clB_n) hw
    refine W.eq (g2 := F0 m9 7 ls [.int (iI zz), .int (iI 0), .ref oa]) rfl ?_
    refine lv_i2l Ex Eb dL_lastDue_7 rfl ?_
    refine lo_last E hJ hw 145 rfl dL_lastDue_8 (fun H locs f hf hw => ?_)
    refine lv_goto Ex Eb dL_lastDue_9 rfl ?_
    have hw : lo_Wd X ((clB X ad pa pb qa qb ra rb ha hb Z9).flatten ++ [arJ cJ oa 1 f]) A9 s9.heap H locs := hw
    refine lv_iconst (v := iI 0) Ex Eb dL_lastDue_15 rfl ?_
    exact lo_iret E hr hlocks hK hA hw dL_lastDue_16 rfl ⟨0, Z9, f, Or.inl ⟨rfl, zz, hF, hf⟩, rfl, rfl⟩
def W7_monthsToHalf (Z : CZ) (i : Int) (kk : Int) (Z9 : CZ) (g9 : Nat → Int64) : Prop := (kk = 0 ∧ ∃ zz : Int, F7_monthsToHalf Z i zz Z9 ∧ g9 0 = (iI zz).toInt64) ∨ (kk = 1 ∧ T7_monthsToHalf Z i "java/lang/IndexOutOfBoundsException" Z9)
theorem T7_monthsToHalf_E {Z Z9 : CZ} {i : Int} {E9 : String} (h : T7_monthsToHalf Z i E9 Z9) : E9 = "java/lang/IndexOutOfBoundsException" := by
  obtain ⟨f0, f1, -⟩ := h
  first | exact f0 | exact f0.1
set_option maxHeartbeats 1000000 in
set_option maxRecDepth 100000 in
theorem kL_monthsToHalf (l : Launch) (X : KX) (cJ : ClassId) (kS : Nat → Nat) (hst : l.stackTraces = false) (ad pa pb qa qb ra rb : Nat → Nat) (ha hb : Nat → Nat → Nat) (Z : CZ) (Y : RZ) (hS : SIM Z Y) (i : Int) (hi9 : i32 i) (oa : Nat) (g : Nat → Int64) : CL l X cJ kS yL_monthsToHalf wsL_monthsToHalf ({ frames := 8, cells := 1, slots := 6, locals := 143 }) [.ref (ad 0), .int (iI i), .ref oa] ((clB X ad pa pb qa qb ra rb ha hb Z).flatten ++ [arJ cJ oa 1 g]) (fun v9 w9 => ∃ (kk : Int) (Z9 : CZ) (g9 : Nat → Int64), W7_monthsToHalf Z i kk Z9 g9 ∧ v9 = some (.int (iI kk)) ∧ w9 = (clB X ad pa pb qa qb ra rb ha hb Z9).flatten ++ [arJ cJ oa 1 g9]) 1 6 := by
  refine lo_enterL (cc := cL_monthsToHalf) (maxL := 4) (ret := some .int) (hh := [(0, 9, 12, 24)]) (lv := [(0, .ref (ad 0)), (1, .int (iI i)), (2, .ref oa)]) (by decide) rfl rfl (Nat.le_of_ble_eq_true rfl) ?_
  intro p9 e9 s9 m9 bl9 me9 c9 A9 ls hA E hr hlocks hK hl hw hV hT hJ
  have Ex := E.1
  have Eb := E.2.1
  refine lv_aload_n Ex Eb dL_monthsToHalf_0 rfl (lv_at hl 2 rfl) ?_
  refine lv_iconst (v := iI 0) Ex Eb dL_monthsToHalf_1 rfl ?_
  refine lv_aload_n Ex Eb dL_monthsToHalf_2 rfl (lv_at hl 0 rfl) ?_
  refine lv_iload_n Ex Eb dL_monthsToHalf_3 rfl (lv_at hl 1 rfl) ?_
  refine lo_callVT (q0 := 0) (rest := [.int (iI 0), .ref oa]) E hK hw hV (vX7_monthsToHalf l X kS hst ad pa pb qa qb ra rb ha hb Z Y hS i hi9) (cwV 1 E.2.2.2.2 gL_monthsToHalf_X7_monthsToHalf rfl rfl rfl (by decide +kernel) ⟨Nat.le_of_ble_eq_true rfl, Nat.le_of_ble_eq_true rfl⟩) rfl rfl (List.range' 0 145) (lo_ps_hd clB_n) (by decide +kernel) hl.1 rfl rfl (Nat.le_of_ble_eq_true rfl) dL_monthsToHalf_4 ⟨Nat.le_of_ble_eq_true rfl, Nat.le_of_ble_eq_true rfl⟩ (fun E9 ce9 q9 w1 H locs hq hw hx1 hx2 hx3 => ?_) (fun v w1 H locs hq hw => ?_)
  · obtain ⟨Z9, hT7, rfl⟩ := hq
    have hw : lo_Wd X ((clB X ad pa pb qa qb ra rb ha hb Z9).flatten ++ [arJ cJ oa 1 g]) A9 s9.heap H locs := lo_cast (lo_sets_hd clB_n clB_n) hw
    rcases T7_monthsToHalf_E hT7 with rfl
    · refine lo_catch (name := "java/lang/IndexOutOfBoundsException") E [] (exE (0, 9, 12, 24)) [] (hT.trans rfl) (pass0 ) rfl (by decide) (E.2.2.2.2 _ (List.mem_of_getElem? (i := 1) rfl)) (hV.2.2.2.2.2.2.2 _ (List.mem_of_getElem? (i := 5) rfl)) hx1 hx2 hx3 ?_
      refine W.eq (g2 := F0 m9 12 ls [.ref q9]) rfl ?_
      refine lv_astore_n (lv' := [(3, .ref q9), (0, .ref (ad 0)), (1, .int (iI i)), (2, .ref oa)]) Ex Eb dL_monthsToHalf_12 rfl hl (by decide) rfl (fun ls hl => ?_)
      refine lv_iconst (v := iI 1) Ex Eb dL_monthsToHalf_13 rfl ?_
      exact lo_iret E hr hlocks hK hA hw dL_monthsToHalf_14 rfl ⟨1, Z9, g, Or.inr (⟨rfl, hT7⟩), rfl, rfl⟩
  · obtain ⟨zz, Z9, hF, rfl, rfl⟩ := hq
    have hw : lo_Wd X ((clB X ad pa pb qa qb ra rb ha hb Z9).flatten ++ [arJ cJ oa 1 g]) A9 s9.heap H locs := lo_cast (lo_sets_hd clB_n clB_n) hw
    refine W.eq (g2 := F0 m9 7 ls [.int (iI zz), .int (iI 0), .ref oa]) rfl ?_
    refine lv_i2l Ex Eb dL_monthsToHalf_7 rfl ?_
    refine lo_last E hJ hw 145 rfl dL_monthsToHalf_8 (fun H locs f hf hw => ?_)
    refine lv_goto Ex Eb dL_monthsToHalf_9 rfl ?_
    have hw : lo_Wd X ((clB X ad pa pb qa qb ra rb ha hb Z9).flatten ++ [arJ cJ oa 1 f]) A9 s9.heap H locs := hw
    refine lv_iconst (v := iI 0) Ex Eb dL_monthsToHalf_15 rfl ?_
    exact lo_iret E hr hlocks hK hA hw dL_monthsToHalf_16 rfl ⟨0, Z9, f, Or.inl ⟨rfl, zz, hF, hf⟩, rfl, rfl⟩
def W7_installmentFor (Z : CZ) (i : Int) (k : Int) (kk : Int) (Z9 : CZ) (g9 : Nat → Int64) : Prop := (kk = 0 ∧ ∃ zz : Int, F7_installmentFor Z i k zz Z9 ∧ g9 0 = (iI zz).toInt64) ∨ (kk = 1 ∧ T7_installmentFor Z i k "java/lang/IndexOutOfBoundsException" Z9) ∨ (kk = 2 ∧ T7_installmentFor Z i k "java/lang/IllegalArgumentException" Z9)
theorem T7_installmentFor_E {Z Z9 : CZ} {i : Int} {k : Int} {E9 : String} (h : T7_installmentFor Z i k E9 Z9) : E9 = "java/lang/IndexOutOfBoundsException" ∨ E9 = "java/lang/IllegalArgumentException" := by
  obtain ⟨f0, -⟩ := h
  first | exact f0.imp (fun q => q.1) (fun q => q.1)
set_option maxHeartbeats 1000000 in
set_option maxRecDepth 100000 in
theorem kL_installmentFor (l : Launch) (X : KX) (cJ : ClassId) (kS : Nat → Nat) (hst : l.stackTraces = false) (ad pa pb qa qb ra rb : Nat → Nat) (ha hb : Nat → Nat → Nat) (Z : CZ) (Y : RZ) (hS : SIM Z Y) (i : Int) (k : Int) (hi9 : i32 i) (hk9 : i32 k) (oa : Nat) (g : Nat → Int64) : CL l X cJ kS yL_installmentFor wsL_installmentFor ({ frames := 8, cells := 2, slots := 12, locals := 145 }) [.ref (ad 0), .int (iI i), .int (iI k), .ref oa] ((clB X ad pa pb qa qb ra rb ha hb Z).flatten ++ [arJ cJ oa 1 g]) (fun v9 w9 => ∃ (kk : Int) (Z9 : CZ) (g9 : Nat → Int64), W7_installmentFor Z i k kk Z9 g9 ∧ v9 = some (.int (iI kk)) ∧ w9 = (clB X ad pa pb qa qb ra rb ha hb Z9).flatten ++ [arJ cJ oa 1 g9]) 2 12 := by
  refine lo_enterL (cc := cL_installmentFor) (maxL := 5) (ret := some .int) (hh := [(0, 10, 13, 24), (0, 10, 17, 13)]) (lv := [(0, .ref (ad 0)), (1, .int (iI i)), (2, .int (iI k)), (3, .ref oa)]) (by decide) rfl rfl (Nat.le_of_ble_eq_true rfl) ?_
  intro p9 e9 s9 m9 bl9 me9 c9 A9 ls hA E hr hlocks hK hl hw hV hT hJ
  have Ex := E.1
  have Eb := E.2.1
  refine lv_aload_n Ex Eb dL_installmentFor_0 rfl (lv_at hl 3 rfl) ?_
  refine lv_iconst (v := iI 0) Ex Eb dL_installmentFor_1 rfl ?_
  refine lv_aload_n Ex Eb dL_installmentFor_2 rfl (lv_at hl 0 rfl) ?_
  refine lv_iload_n Ex Eb dL_installmentFor_3 rfl (lv_at hl 1 rfl) ?_
  refine lv_iload_n Ex Eb dL_installmentFor_4 rfl (lv_at hl 2 rfl) ?_
  refine lo_callVT (q0 := 0) (rest := [.int (iI 0), .ref oa]) E hK hw hV (vX7_installmentFor l X kS hst ad pa pb qa qb ra rb ha hb Z Y hS i k hi9 hk9) (cwV 2 E.2.2.2.2 gL_installmentFor_X7_installmentFor rfl rfl rfl (by decide +kernel) ⟨Nat.le_of_ble_eq_true rfl, Nat.le_of_ble_eq_true rfl⟩) rfl rfl (List.range' 0 145) (lo_ps_hd clB_n) (by decide +kernel) hl.1 rfl rfl (Nat.le_of_ble_eq_true rfl) dL_installmentFor_5 ⟨Nat.le_of_ble_eq_true rfl, Nat.le_of_ble_eq_true rfl⟩ (fun E9 ce9 q9 w1 H locs hq hw hx1 hx2 hx3 => ?_) (fun v w1 H locs hq hw => ?_)
  · obtain ⟨Z9, hT7, rfl⟩ := hq
    have hw : lo_Wd X ((clB X ad pa pb qa qb ra rb ha hb Z9).flatten ++ [arJ cJ oa 1 g]) A9 s9.heap H locs := lo_cast (lo_sets_hd clB_n clB_n) hw
    rcases T7_installmentFor_E hT7 with rfl | rfl
    · refine lo_catch (name := "java/lang/IndexOutOfBoundsException") E [] (exE (0, 10, 13, 24)) [exE (0, 10, 17, 13)] (hT.trans rfl) (pass0 ) rfl (by decide) (E.2.2.2.2 _ (List.mem_of_getElem? (i := 1) rfl)) (hV.2.2.2.2.2.2.2 _ (List.mem_of_getElem? (i := 5) rfl)) hx1 hx2 hx3 ?_
      refine W.eq (g2 := F0 m9 13 ls [.ref q9]) rfl ?_
      refine lv_astore (lv' := [(4, .ref q9), (0, .ref (ad 0)), (1, .int (iI i)), (2, .int (iI k)), (3, .ref oa)]) Ex Eb dL_installmentFor_13 hl (by decide) rfl (fun ls hl => ?_)
      refine lv_iconst (v := iI 1) Ex Eb dL_installmentFor_15 rfl ?_
      exact lo_iret E hr hlocks hK hA hw dL_installmentFor_16 rfl ⟨1, Z9, g, Or.inr (Or.inl ⟨rfl, hT7⟩), rfl, rfl⟩
    · refine lo_catch (name := "java/lang/IllegalArgumentException") E [exE (0, 10, 13, 24)] (exE (0, 10, 17, 13)) [] (hT.trans rfl) (pass1 (Or.inr ⟨by decide, "java/lang/IndexOutOfBoundsException", E.2.2.2.2 _ (List.mem_of_getElem? (i := 1) rfl), hJ.2.2.2⟩)) rfl (by decide) (E.2.2.2.2 _ (List.mem_of_getElem? (i := 2) rfl)) (hV.2.2.2.2.2.2.2 _ (List.mem_of_getElem? (i := 3) rfl)) hx1 hx2 hx3 ?_
      refine W.eq (g2 := F0 m9 17 ls [.ref q9]) rfl ?_
      refine lv_astore (lv' := [(4, .ref q9), (0, .ref (ad 0)), (1, .int (iI i)), (2, .int (iI k)), (3, .ref oa)]) Ex Eb dL_installmentFor_17 hl (by decide) rfl (fun ls hl => ?_)
      refine lv_iconst (v := iI 2) Ex Eb dL_installmentFor_19 rfl ?_
      exact lo_iret E hr hlocks hK hA hw dL_installmentFor_20 rfl ⟨2, Z9, g, Or.inr (Or.inr (⟨rfl, hT7⟩)), rfl, rfl⟩
  · obtain ⟨zz, Z9, hF, rfl, rfl⟩ := hq
    have hw : lo_Wd X ((clB X ad pa pb qa qb ra rb ha hb Z9).flatten ++ [arJ cJ oa 1 g]) A9 s9.heap H locs := lo_cast (lo_sets_hd clB_n clB_n) hw
    refine W.eq (g2 := F0 m9 8 ls [.int (iI zz), .int (iI 0), .ref oa]) rfl ?_
    refine lv_i2l Ex Eb dL_installmentFor_8 rfl ?_
    refine lo_last E hJ hw 145 rfl dL_installmentFor_9 (fun H locs f hf hw => ?_)
    refine lv_goto Ex Eb dL_installmentFor_10 rfl ?_
    have hw : lo_Wd X ((clB X ad pa pb qa qb ra rb ha hb Z9).flatten ++ [arJ cJ oa 1 f]) A9 s9.heap H locs := hw
    refine lv_iconst (v := iI 0) Ex Eb dL_installmentFor_21 rfl ?_
    exact lo_iret E hr hlocks hK hA hw dL_installmentFor_22 rfl ⟨0, Z9, f, Or.inl ⟨rfl, zz, hF, hf⟩, rfl, rfl⟩
def W7_monthsFor (Z : CZ) (i : Int) (k : Int) (kk : Int) (Z9 : CZ) (g9 : Nat → Int64) : Prop := (kk = 0 ∧ ∃ zz : Int, F7_monthsFor Z i k zz Z9 ∧ g9 0 = (iI zz).toInt64) ∨ (kk = 1 ∧ T7_monthsFor Z i k "java/lang/IndexOutOfBoundsException" Z9) ∨ (kk = 2 ∧ T7_monthsFor Z i k "java/lang/IllegalArgumentException" Z9)
theorem T7_monthsFor_E {Z Z9 : CZ} {i : Int} {k : Int} {E9 : String} (h : T7_monthsFor Z i k E9 Z9) : E9 = "java/lang/IndexOutOfBoundsException" ∨ E9 = "java/lang/IllegalArgumentException" := by
  obtain ⟨f0, -⟩ := h
  first | exact f0.imp (fun q => q.1) (fun q => q.1)
set_option maxHeartbeats 1000000 in
set_option maxRecDepth 100000 in
theorem kL_monthsFor (l : Launch) (X : KX) (cJ : ClassId) (kS : Nat → Nat) (hst : l.stackTraces = false) (ad pa pb qa qb ra rb : Nat → Nat) (ha hb : Nat → Nat → Nat) (Z : CZ) (Y : RZ) (hS : SIM Z Y) (i : Int) (k : Int) (hi9 : i32 i) (hk9 : i32 k) (oa : Nat) (g : Nat → Int64) : CL l X cJ kS yL_monthsFor wsL_monthsFor ({ frames := 8, cells := 2, slots := 12, locals := 145 }) [.ref (ad 0), .int (iI i), .int (iI k), .ref oa] ((clB X ad pa pb qa qb ra rb ha hb Z).flatten ++ [arJ cJ oa 1 g]) (fun v9 w9 => ∃ (kk : Int) (Z9 : CZ) (g9 : Nat → Int64), W7_monthsFor Z i k kk Z9 g9 ∧ v9 = some (.int (iI kk)) ∧ w9 = (clB X ad pa pb qa qb ra rb ha hb Z9).flatten ++ [arJ cJ oa 1 g9]) 2 12 := by
  refine lo_enterL (cc := cL_monthsFor) (maxL := 5) (ret := some .int) (hh := [(0, 10, 13, 24), (0, 10, 17, 13)]) (lv := [(0, .ref (ad 0)), (1, .int (iI i)), (2, .int (iI k)), (3, .ref oa)]) (by decide) rfl rfl (Nat.le_of_ble_eq_true rfl) ?_
  intro p9 e9 s9 m9 bl9 me9 c9 A9 ls hA E hr hlocks hK hl hw hV hT hJ
  have Ex := E.1
  have Eb := E.2.1
  refine lv_aload_n Ex Eb dL_monthsFor_0 rfl (lv_at hl 3 rfl) ?_
  refine lv_iconst (v := iI 0) Ex Eb dL_monthsFor_1 rfl ?_
  refine lv_aload_n Ex Eb dL_monthsFor_2 rfl (lv_at hl 0 rfl) ?_
  refine lv_iload_n Ex Eb dL_monthsFor_3 rfl (lv_at hl 1 rfl) ?_
  refine lv_iload_n Ex Eb dL_monthsFor_4 rfl (lv_at hl 2 rfl) ?_
  refine lo_callVT (q0 := 0) (rest := [.int (iI 0), .ref oa]) E hK hw hV (vX7_monthsFor l X kS hst ad pa pb qa qb ra rb ha hb Z Y hS i k hi9 hk9) (cwV 2 E.2.2.2.2 gL_monthsFor_X7_monthsFor rfl rfl rfl (by decide +kernel) ⟨Nat.le_of_ble_eq_true rfl, Nat.le_of_ble_eq_true rfl⟩) rfl rfl (List.range' 0 145) (lo_ps_hd clB_n) (by decide +kernel) hl.1 rfl rfl (Nat.le_of_ble_eq_true rfl) dL_monthsFor_5 ⟨Nat.le_of_ble_eq_true rfl, Nat.le_of_ble_eq_true rfl⟩ (fun E9 ce9 q9 w1 H locs hq hw hx1 hx2 hx3 => ?_) (fun v w1 H locs hq hw => ?_)
  · obtain ⟨Z9, hT7, rfl⟩ := hq
    have hw : lo_Wd X ((clB X ad pa pb qa qb ra rb ha hb Z9).flatten ++ [arJ cJ oa 1 g]) A9 s9.heap H locs := lo_cast (lo_sets_hd clB_n clB_n) hw
    rcases T7_monthsFor_E hT7 with rfl | rfl
    · refine lo_catch (name := "java/lang/IndexOutOfBoundsException") E [] (exE (0, 10, 13, 24)) [exE (0, 10, 17, 13)] (hT.trans rfl) (pass0 ) rfl (by decide) (E.2.2.2.2 _ (List.mem_of_getElem? (i := 1) rfl)) (hV.2.2.2.2.2.2.2 _ (List.mem_of_getElem? (i := 5) rfl)) hx1 hx2 hx3 ?_
      refine W.eq (g2 := F0 m9 13 ls [.ref q9]) rfl ?_
      refine lv_astore (lv' := [(4, .ref q9), (0, .ref (ad 0)), (1, .int (iI i)), (2, .int (iI k)), (3, .ref oa)]) Ex Eb dL_monthsFor_13 hl (by decide) rfl (fun ls hl => ?_)
      refine lv_iconst (v := iI 1) Ex Eb dL_monthsFor_15 rfl ?_
      exact lo_iret E hr hlocks hK hA hw dL_monthsFor_16 rfl ⟨1, Z9, g, Or.inr (Or.inl ⟨rfl, hT7⟩), rfl, rfl⟩
    · refine lo_catch (name := "java/lang/IllegalArgumentException") E [exE (0, 10, 13, 24)] (exE (0, 10, 17, 13)) [] (hT.trans rfl) (pass1 (Or.inr ⟨by decide, "java/lang/IndexOutOfBoundsException", E.2.2.2.2 _ (List.mem_of_getElem? (i := 1) rfl), hJ.2.2.2⟩)) rfl (by decide) (E.2.2.2.2 _ (List.mem_of_getElem? (i := 2) rfl)) (hV.2.2.2.2.2.2.2 _ (List.mem_of_getElem? (i := 3) rfl)) hx1 hx2 hx3 ?_
      refine W.eq (g2 := F0 m9 17 ls [.ref q9]) rfl ?_
      refine lv_astore (lv' := [(4, .ref q9), (0, .ref (ad 0)), (1, .int (iI i)), (2, .int (iI k)), (3, .ref oa)]) Ex Eb dL_monthsFor_17 hl (by decide) rfl (fun ls hl => ?_)
      refine lv_iconst (v := iI 2) Ex Eb dL_monthsFor_19 rfl ?_
      exact lo_iret E hr hlocks hK hA hw dL_monthsFor_20 rfl ⟨2, Z9, g, Or.inr (Or.inr (⟨rfl, hT7⟩)), rfl, rfl⟩
  · obtain ⟨zz, Z9, hF, rfl, rfl⟩ := hq
    have hw : lo_Wd X ((clB X ad pa pb qa qb ra rb ha hb Z9).flatten ++ [arJ cJ oa 1 g]) A9 s9.heap H locs := lo_cast (lo_sets_hd clB_n clB_n) hw
    refine W.eq (g2 := F0 m9 8 ls [.int (iI zz), .int (iI 0), .ref oa]) rfl ?_
    refine lv_i2l Ex Eb dL_monthsFor_8 rfl ?_
    refine lo_last E hJ hw 145 rfl dL_monthsFor_9 (fun H locs f hf hw => ?_)
    refine lv_goto Ex Eb dL_monthsFor_10 rfl ?_
    have hw : lo_Wd X ((clB X ad pa pb qa qb ra rb ha hb Z9).flatten ++ [arJ cJ oa 1 f]) A9 s9.heap H locs := hw
    refine lv_iconst (v := iI 0) Ex Eb dL_monthsFor_21 rfl ?_
    exact lo_iret E hr hlocks hK hA hw dL_monthsFor_22 rfl ⟨0, Z9, f, Or.inl ⟨rfl, zz, hF, hf⟩, rfl, rfl⟩
def W7_savingOfExtra (Z : CZ) (i : Int) (k : Int) (y : Int) (kk : Int) (Z9 : CZ) (g9 : Nat → Int64) : Prop := (kk = 0 ∧ ∃ zz : Int, F7_savingOfExtra Z i k y zz Z9 ∧ g9 0 = (iI zz).toInt64) ∨ (kk = 1 ∧ T7_savingOfExtra Z i k y "java/lang/IndexOutOfBoundsException" Z9) ∨ (kk = 2 ∧ T7_savingOfExtra Z i k y "java/lang/IllegalArgumentException" Z9)
theorem T7_savingOfExtra_E {Z Z9 : CZ} {i : Int} {k : Int} {y : Int} {E9 : String} (h : T7_savingOfExtra Z i k y E9 Z9) : E9 = "java/lang/IndexOutOfBoundsException" ∨ E9 = "java/lang/IllegalArgumentException" := by
  obtain ⟨f0, -⟩ := h
  first | exact f0.imp (fun q => q.1) (fun q => q.1)
set_option maxHeartbeats 1000000 in
set_option maxRecDepth 100000 in
theorem kL_savingOfExtra (l : Launch) (X : KX) (cJ : ClassId) (kS : Nat → Nat) (hst : l.stackTraces = false) (ad pa pb qa qb ra rb : Nat → Nat) (ha hb : Nat → Nat → Nat) (Z : CZ) (Y : RZ) (hS : SIM Z Y) (i : Int) (k : Int) (y : Int) (hi9 : i32 i) (hk9 : i32 k) (hy : y = 0 ∨ y = 1) (oa : Nat) (g : Nat → Int64) : CL l X cJ kS yL_savingOfExtra wsL_savingOfExtra ({ frames := 8, cells := 2, slots := 12, locals := 146 }) [.ref (ad 0), .int (iI i), .int (iI k), .int (iI y), .ref oa] ((clB X ad pa pb qa qb ra rb ha hb Z).flatten ++ [arJ cJ oa 1 g]) (fun v9 w9 => ∃ (kk : Int) (Z9 : CZ) (g9 : Nat → Int64), W7_savingOfExtra Z i k y kk Z9 g9 ∧ v9 = some (.int (iI kk)) ∧ w9 = (clB X ad pa pb qa qb ra rb ha hb Z9).flatten ++ [arJ cJ oa 1 g9]) 2 12 := by
  refine lo_enterL (cc := cL_savingOfExtra) (maxL := 6) (ret := some .int) (hh := [(0, 12, 15, 24), (0, 12, 19, 13)]) (lv := [(0, .ref (ad 0)), (1, .int (iI i)), (2, .int (iI k)), (3, .int (iI y)), (4, .ref oa)]) (by decide) rfl rfl (Nat.le_of_ble_eq_true rfl) ?_
  intro p9 e9 s9 m9 bl9 me9 c9 A9 ls hA E hr hlocks hK hl hw hV hT hJ
  have Ex := E.1
  have Eb := E.2.1
  refine lv_aload Ex Eb dL_savingOfExtra_0 (lv_at hl 4 rfl) ?_
  refine lv_iconst (v := iI 0) Ex Eb dL_savingOfExtra_2 rfl ?_
  refine lv_aload_n Ex Eb dL_savingOfExtra_3 rfl (lv_at hl 0 rfl) ?_
  refine lv_iload_n Ex Eb dL_savingOfExtra_4 rfl (lv_at hl 1 rfl) ?_
  refine lv_iload_n Ex Eb dL_savingOfExtra_5 rfl (lv_at hl 2 rfl) ?_
  refine lv_iload_n Ex Eb dL_savingOfExtra_6 rfl (lv_at hl 3 rfl) ?_
  refine lo_callVT (q0 := 0) (rest := [.int (iI 0), .ref oa]) E hK hw hV (vX7_savingOfExtra l X kS hst ad pa pb qa qb ra rb ha hb Z Y hS i k y hi9 hk9 hy) (cwV 3 E.2.2.2.2 gL_savingOfExtra_X7_savingOfExtra rfl rfl rfl (by decide +kernel) ⟨Nat.le_of_ble_eq_true rfl, Nat.le_of_ble_eq_true rfl⟩) rfl rfl (List.range' 0 145) (lo_ps_hd clB_n) (by decide +kernel) hl.1 rfl rfl (Nat.le_of_ble_eq_true rfl) dL_savingOfExtra_7 ⟨Nat.le_of_ble_eq_true rfl, Nat.le_of_ble_eq_true rfl⟩ (fun E9 ce9 q9 w1 H locs hq hw hx1 hx2 hx3 => ?_) (fun v w1 H locs hq hw => ?_)
  · obtain ⟨Z9, hT7, rfl⟩ := hq
    have hw : lo_Wd X ((clB X ad pa pb qa qb ra rb ha hb Z9).flatten ++ [arJ cJ oa 1 g]) A9 s9.heap H locs := lo_cast (lo_sets_hd clB_n clB_n) hw
    rcases T7_savingOfExtra_E hT7 with rfl | rfl
    · refine lo_catch (name := "java/lang/IndexOutOfBoundsException") E [] (exE (0, 12, 15, 24)) [exE (0, 12, 19, 13)] (hT.trans rfl) (pass0 ) rfl (by decide) (E.2.2.2.2 _ (List.mem_of_getElem? (i := 1) rfl)) (hV.2.2.2.2.2.2.2 _ (List.mem_of_getElem? (i := 5) rfl)) hx1 hx2 hx3 ?_
      refine W.eq (g2 := F0 m9 15 ls [.ref q9]) rfl ?_
      refine lv_astore (lv' := [(5, .ref q9), (0, .ref (ad 0)), (1, .int (iI i)), (2, .int (iI k)), (3, .int (iI y)), (4, .ref oa)]) Ex Eb dL_savingOfExtra_15 hl (by decide) rfl (fun ls hl => ?_)
      refine lv_iconst (v := iI 1) Ex Eb dL_savingOfExtra_17 rfl ?_
      exact lo_iret E hr hlocks hK hA hw dL_savingOfExtra_18 rfl ⟨1, Z9, g, Or.inr (Or.inl ⟨rfl, hT7⟩), rfl, rfl⟩
    · refine lo_catch (name := "java/lang/IllegalArgumentException") E [exE (0, 12, 15, 24)] (exE (0, 12, 19, 13)) [] (hT.trans rfl) (pass1 (Or.inr ⟨by decide, "java/lang/IndexOutOfBoundsException", E.2.2.2.2 _ (List.mem_of_getElem? (i := 1) rfl), hJ.2.2.2⟩)) rfl (by decide) (E.2.2.2.2 _ (List.mem_of_getElem? (i := 2) rfl)) (hV.2.2.2.2.2.2.2 _ (List.mem_of_getElem? (i := 3) rfl)) hx1 hx2 hx3 ?_
      refine W.eq (g2 := F0 m9 19 ls [.ref q9]) rfl ?_
      refine lv_astore (lv' := [(5, .ref q9), (0, .ref (ad 0)), (1, .int (iI i)), (2, .int (iI k)), (3, .int (iI y)), (4, .ref oa)]) Ex Eb dL_savingOfExtra_19 hl (by decide) rfl (fun ls hl => ?_)
      refine lv_iconst (v := iI 2) Ex Eb dL_savingOfExtra_21 rfl ?_
      exact lo_iret E hr hlocks hK hA hw dL_savingOfExtra_22 rfl ⟨2, Z9, g, Or.inr (Or.inr (⟨rfl, hT7⟩)), rfl, rfl⟩
  · obtain ⟨zz, Z9, hF, rfl, rfl⟩ := hq
    have hw : lo_Wd X ((clB X ad pa pb qa qb ra rb ha hb Z9).flatten ++ [arJ cJ oa 1 g]) A9 s9.heap H locs := lo_cast (lo_sets_hd clB_n clB_n) hw
    refine W.eq (g2 := F0 m9 10 ls [.int (iI zz), .int (iI 0), .ref oa]) rfl ?_
    refine lv_i2l Ex Eb dL_savingOfExtra_10 rfl ?_
    refine lo_last E hJ hw 145 rfl dL_savingOfExtra_11 (fun H locs f hf hw => ?_)
    refine lv_goto Ex Eb dL_savingOfExtra_12 rfl ?_
    have hw : lo_Wd X ((clB X ad pa pb qa qb ra rb ha hb Z9).flatten ++ [arJ cJ oa 1 f]) A9 s9.heap H locs := hw
    refine lv_iconst (v := iI 0) Ex Eb dL_savingOfExtra_23 rfl ?_
    exact lo_iret E hr hlocks hK hA hw dL_savingOfExtra_24 rfl ⟨0, Z9, f, Or.inl ⟨rfl, zz, hF, hf⟩, rfl, rfl⟩
def W7_interestIfRate (Z : CZ) (i : Int) (k : Int) (kk : Int) (Z9 : CZ) (g9 : Nat → Int64) : Prop := (kk = 0 ∧ ∃ zz : Int, F7_interestIfRate Z i k zz Z9 ∧ g9 0 = (iI zz).toInt64) ∨ (kk = 1 ∧ T7_interestIfRate Z i k "java/lang/IndexOutOfBoundsException" Z9) ∨ (kk = 2 ∧ T7_interestIfRate Z i k "java/lang/IllegalArgumentException" Z9)
theorem T7_interestIfRate_E {Z Z9 : CZ} {i : Int} {k : Int} {E9 : String} (h : T7_interestIfRate Z i k E9 Z9) : E9 = "java/lang/IndexOutOfBoundsException" ∨ E9 = "java/lang/IllegalArgumentException" := by
  obtain ⟨f0, -⟩ := h
  first | exact f0.imp (fun q => q.1) (fun q => q.1)
set_option maxHeartbeats 1000000 in
set_option maxRecDepth 100000 in
theorem kL_interestIfRate (l : Launch) (X : KX) (cJ : ClassId) (kS : Nat → Nat) (hst : l.stackTraces = false) (ad pa pb qa qb ra rb : Nat → Nat) (ha hb : Nat → Nat → Nat) (Z : CZ) (Y : RZ) (hS : SIM Z Y) (i : Int) (k : Int) (hi9 : i32 i) (hk9 : i32 k) (oa : Nat) (g : Nat → Int64) : CL l X cJ kS yL_interestIfRate wsL_interestIfRate ({ frames := 8, cells := 2, slots := 12, locals := 145 }) [.ref (ad 0), .int (iI i), .int (iI k), .ref oa] ((clB X ad pa pb qa qb ra rb ha hb Z).flatten ++ [arJ cJ oa 1 g]) (fun v9 w9 => ∃ (kk : Int) (Z9 : CZ) (g9 : Nat → Int64), W7_interestIfRate Z i k kk Z9 g9 ∧ v9 = some (.int (iI kk)) ∧ w9 = (clB X ad pa pb qa qb ra rb ha hb Z9).flatten ++ [arJ cJ oa 1 g9]) 2 12 := by
  refine lo_enterL (cc := cL_interestIfRate) (maxL := 5) (ret := some .int) (hh := [(0, 10, 13, 24), (0, 10, 17, 13)]) (lv := [(0, .ref (ad 0)), (1, .int (iI i)), (2, .int (iI k)), (3, .ref oa)]) (by decide) rfl rfl (Nat.le_of_ble_eq_true rfl) ?_
  intro p9 e9 s9 m9 bl9 me9 c9 A9 ls hA E hr hlocks hK hl hw hV hT hJ
  have Ex := E.1
  have Eb := E.2.1
  refine lv_aload_n Ex Eb dL_interestIfRate_0 rfl (lv_at hl 3 rfl) ?_
  refine lv_iconst (v := iI 0) Ex Eb dL_interestIfRate_1 rfl ?_
  refine lv_aload_n Ex Eb dL_interestIfRate_2 rfl (lv_at hl 0 rfl) ?_
  refine lv_iload_n Ex Eb dL_interestIfRate_3 rfl (lv_at hl 1 rfl) ?_
  refine lv_iload_n Ex Eb dL_interestIfRate_4 rfl (lv_at hl 2 rfl) ?_
  refine lo_callVT (q0 := 0) (rest := [.int (iI 0), .ref oa]) E hK hw hV (vX7_interestIfRate l X kS hst ad pa pb qa qb ra rb ha hb Z Y hS i k hi9 hk9) (cwV 2 E.2.2.2.2 gL_interestIfRate_X7_interestIfRate rfl rfl rfl (by decide +kernel) ⟨Nat.le_of_ble_eq_true rfl, Nat.le_of_ble_eq_true rfl⟩) rfl rfl (List.range' 0 145) (lo_ps_hd clB_n) (by decide +kernel) hl.1 rfl rfl (Nat.le_of_ble_eq_true rfl) dL_interestIfRate_5 ⟨Nat.le_of_ble_eq_true rfl, Nat.le_of_ble_eq_true rfl⟩ (fun E9 ce9 q9 w1 H locs hq hw hx1 hx2 hx3 => ?_) (fun v w1 H locs hq hw => ?_)
  · obtain ⟨Z9, hT7, rfl⟩ := hq
    have hw : lo_Wd X ((clB X ad pa pb qa qb ra rb ha hb Z9).flatten ++ [arJ cJ oa 1 g]) A9 s9.heap H locs := lo_cast (lo_sets_hd clB_n clB_n) hw
    rcases T7_interestIfRate_E hT7 with rfl | rfl
    · refine lo_catch (name := "java/lang/IndexOutOfBoundsException") E [] (exE (0, 10, 13, 24)) [exE (0, 10, 17, 13)] (hT.trans rfl) (pass0 ) rfl (by decide) (E.2.2.2.2 _ (List.mem_of_getElem? (i := 1) rfl)) (hV.2.2.2.2.2.2.2 _ (List.mem_of_getElem? (i := 5) rfl)) hx1 hx2 hx3 ?_
      refine W.eq (g2 := F0 m9 13 ls [.ref q9]) rfl ?_
      refine lv_astore (lv' := [(4, .ref q9), (0, .ref (ad 0)), (1, .int (iI i)), (2, .int (iI k)), (3, .ref oa)]) Ex Eb dL_interestIfRate_13 hl (by decide) rfl (fun ls hl => ?_)
      refine lv_iconst (v := iI 1) Ex Eb dL_interestIfRate_15 rfl ?_
      exact lo_iret E hr hlocks hK hA hw dL_interestIfRate_16 rfl ⟨1, Z9, g, Or.inr (Or.inl ⟨rfl, hT7⟩), rfl, rfl⟩
    · refine lo_catch (name := "java/lang/IllegalArgumentException") E [exE (0, 10, 13, 24)] (exE (0, 10, 17, 13)) [] (hT.trans rfl) (pass1 (Or.inr ⟨by decide, "java/lang/IndexOutOfBoundsException", E.2.2.2.2 _ (List.mem_of_getElem? (i := 1) rfl), hJ.2.2.2⟩)) rfl (by decide) (E.2.2.2.2 _ (List.mem_of_getElem? (i := 2) rfl)) (hV.2.2.2.2.2.2.2 _ (List.mem_of_getElem? (i := 3) rfl)) hx1 hx2 hx3 ?_
      refine W.eq (g2 := F0 m9 17 ls [.ref q9]) rfl ?_
      refine lv_astore (lv' := [(4, .ref q9), (0, .ref (ad 0)), (1, .int (iI i)), (2, .int (iI k)), (3, .ref oa)]) Ex Eb dL_interestIfRate_17 hl (by decide) rfl (fun ls hl => ?_)
      refine lv_iconst (v := iI 2) Ex Eb dL_interestIfRate_19 rfl ?_
      exact lo_iret E hr hlocks hK hA hw dL_interestIfRate_20 rfl ⟨2, Z9, g, Or.inr (Or.inr (⟨rfl, hT7⟩)), rfl, rfl⟩
  · obtain ⟨zz, Z9, hF, rfl, rfl⟩ := hq
    have hw : lo_Wd X ((clB X ad pa pb qa qb ra rb ha hb Z9).flatten ++ [arJ cJ oa 1 g]) A9 s9.heap H locs := lo_cast (lo_sets_hd clB_n clB_n) hw
    refine W.eq (g2 := F0 m9 8 ls [.int (iI zz), .int (iI 0), .ref oa]) rfl ?_
    refine lv_i2l Ex Eb dL_interestIfRate_8 rfl ?_
    refine lo_last E hJ hw 145 rfl dL_interestIfRate_9 (fun H locs f hf hw => ?_)
    refine lv_goto Ex Eb dL_interestIfRate_10 rfl ?_
    have hw : lo_Wd X ((clB X ad pa pb qa qb ra rb ha hb Z9).flatten ++ [arJ cJ oa 1 f]) A9 s9.heap H locs := hw
    refine lv_iconst (v := iI 0) Ex Eb dL_interestIfRate_21 rfl ?_
    exact lo_iret E hr hlocks hK hA hw dL_interestIfRate_22 rfl ⟨0, Z9, f, Or.inl ⟨rfl, zz, hF, hf⟩, rfl, rfl⟩
def W7_isCheaper (Z : CZ) (i : Int) (k : Int) (m : Int) (kk : Int) (Z9 : CZ) (g9 : Nat → Int64) : Prop := (kk = 0 ∧ ∃ zz : Int, F7_isCheaper Z i k m zz Z9 ∧ g9 0 = bL zz) ∨ (kk = 1 ∧ T7_isCheaper Z i k m "java/lang/IndexOutOfBoundsException" Z9) ∨ (kk = 2 ∧ T7_isCheaper Z i k m "java/lang/IllegalArgumentException" Z9)
theorem T7_isCheaper_E {Z Z9 : CZ} {i : Int} {k : Int} {m : Int} {E9 : String} (h : T7_isCheaper Z i k m E9 Z9) : E9 = "java/lang/IndexOutOfBoundsException" ∨ E9 = "java/lang/IllegalArgumentException" := by
  obtain ⟨f0, -⟩ := h
  first | exact f0.imp (fun q => q.1) (fun q => q.1)
set_option maxHeartbeats 1000000 in
set_option maxRecDepth 100000 in
theorem kL_isCheaper (l : Launch) (X : KX) (cJ : ClassId) (kS : Nat → Nat) (hst : l.stackTraces = false) (ad pa pb qa qb ra rb : Nat → Nat) (ha hb : Nat → Nat → Nat) (Z : CZ) (Y : RZ) (hS : SIM Z Y) (i : Int) (k : Int) (m : Int) (hi9 : i32 i) (hk9 : i32 k) (hm99 : i32 m) (oa : Nat) (g : Nat → Int64) : CL l X cJ kS yL_isCheaper wsL_isCheaper ({ frames := 8, cells := 3, slots := 18, locals := 146 }) [.ref (ad 0), .int (iI i), .int (iI k), .int (iI m), .ref oa] ((clB X ad pa pb qa qb ra rb ha hb Z).flatten ++ [arJ cJ oa 1 g]) (fun v9 w9 => ∃ (kk : Int) (Z9 : CZ) (g9 : Nat → Int64), W7_isCheaper Z i k m kk Z9 g9 ∧ v9 = some (.int (iI kk)) ∧ w9 = (clB X ad pa pb qa qb ra rb ha hb Z9).flatten ++ [arJ cJ oa 1 g9]) 3 18 := by
  refine lo_enterL (cc := cL_isCheaper) (maxL := 6) (ret := some .int) (hh := [(0, 19, 22, 24), (0, 19, 26, 13)]) (lv := [(0, .ref (ad 0)), (1, .int (iI i)), (2, .int (iI k)), (3, .int (iI m)), (4, .ref oa)]) (by decide) rfl rfl (Nat.le_of_ble_eq_true rfl) ?_
  intro p9 e9 s9 m9 bl9 me9 c9 A9 ls hA E hr hlocks hK hl hw hV hT hJ
  have Ex := E.1
  have Eb := E.2.1
  refine lv_aload Ex Eb dL_isCheaper_0 (lv_at hl 4 rfl) ?_
  refine lv_iconst (v := iI 0) Ex Eb dL_isCheaper_2 rfl ?_
  refine lv_aload_n Ex Eb dL_isCheaper_3 rfl (lv_at hl 0 rfl) ?_
  refine lv_iload_n Ex Eb dL_isCheaper_4 rfl (lv_at hl 1 rfl) ?_
  refine lv_iload_n Ex Eb dL_isCheaper_5 rfl (lv_at hl 2 rfl) ?_
  refine lv_iload_n Ex Eb dL_isCheaper_6 rfl (lv_at hl 3 rfl) ?_
  refine lo_callVT (q0 := 0) (rest := [.int (iI 0), .ref oa]) E hK hw hV (vX7_isCheaper l X kS hst ad pa pb qa qb ra rb ha hb Z Y hS i k m hi9 hk9 hm99) (cwV 3 E.2.2.2.2 gL_isCheaper_X7_isCheaper rfl rfl rfl (by decide +kernel) ⟨Nat.le_of_ble_eq_true rfl, Nat.le_of_ble_eq_true rfl⟩) rfl rfl (List.range' 0 145) (lo_ps_hd clB_n) (by decide +kernel) hl.1 rfl rfl (Nat.le_of_ble_eq_true rfl) dL_isCheaper_7 ⟨Nat.le_of_ble_eq_true rfl, Nat.le_of_ble_eq_true rfl⟩ (fun E9 ce9 q9 w1 H locs hq hw hx1 hx2 hx3 => ?_) (fun v w1 H locs hq hw => ?_)
  · obtain ⟨Z9, hT7, rfl⟩ := hq
    have hw : lo_Wd X ((clB X ad pa pb qa qb ra rb ha hb Z9).flatten ++ [arJ cJ oa 1 g]) A9 s9.heap H locs := lo_cast (lo_sets_hd clB_n clB_n) hw
    rcases T7_isCheaper_E hT7 with rfl | rfl
    · refine lo_catch (name := "java/lang/IndexOutOfBoundsException") E [] (exE (0, 19, 22, 24)) [exE (0, 19, 26, 13)] (hT.trans rfl) (pass0 ) rfl (by decide) (E.2.2.2.2 _ (List.mem_of_getElem? (i := 1) rfl)) (hV.2.2.2.2.2.2.2 _ (List.mem_of_getElem? (i := 5) rfl)) hx1 hx2 hx3 ?_
      refine W.eq (g2 := F0 m9 22 ls [.ref q9]) rfl ?_
      refine lv_astore (lv' := [(5, .ref q9), (0, .ref (ad 0)), (1, .int (iI i)), (2, .int (iI k)), (3, .int (iI m)), (4, .ref oa)]) Ex Eb dL_isCheaper_22 hl (by decide) rfl (fun ls hl => ?_)
      refine lv_iconst (v := iI 1) Ex Eb dL_isCheaper_24 rfl ?_
      exact lo_iret E hr hlocks hK hA hw dL_isCheaper_25 rfl ⟨1, Z9, g, Or.inr (Or.inl ⟨rfl, hT7⟩), rfl, rfl⟩
    · refine lo_catch (name := "java/lang/IllegalArgumentException") E [exE (0, 19, 22, 24)] (exE (0, 19, 26, 13)) [] (hT.trans rfl) (pass1 (Or.inr ⟨by decide, "java/lang/IndexOutOfBoundsException", E.2.2.2.2 _ (List.mem_of_getElem? (i := 1) rfl), hJ.2.2.2⟩)) rfl (by decide) (E.2.2.2.2 _ (List.mem_of_getElem? (i := 2) rfl)) (hV.2.2.2.2.2.2.2 _ (List.mem_of_getElem? (i := 3) rfl)) hx1 hx2 hx3 ?_
      refine W.eq (g2 := F0 m9 26 ls [.ref q9]) rfl ?_
      refine lv_astore (lv' := [(5, .ref q9), (0, .ref (ad 0)), (1, .int (iI i)), (2, .int (iI k)), (3, .int (iI m)), (4, .ref oa)]) Ex Eb dL_isCheaper_26 hl (by decide) rfl (fun ls hl => ?_)
      refine lv_iconst (v := iI 2) Ex Eb dL_isCheaper_28 rfl ?_
      exact lo_iret E hr hlocks hK hA hw dL_isCheaper_29 rfl ⟨2, Z9, g, Or.inr (Or.inr (⟨rfl, hT7⟩)), rfl, rfl⟩
  · obtain ⟨zz, Z9, hF, rfl, rfl⟩ := hq
    have hw : lo_Wd X ((clB X ad pa pb qa qb ra rb ha hb Z9).flatten ++ [arJ cJ oa 1 g]) A9 s9.heap H locs := lo_cast (lo_sets_hd clB_n clB_n) hw
    refine W.eq (g2 := F0 m9 10 ls [.int (iI zz), .int (iI 0), .ref oa]) rfl ?_
    refine lv_if_eq (tgt := 17) Ex Eb dL_isCheaper_10 rfl (fun hz => ?_) (fun hz => ?_)
    · refine lv_lconst (v := iL 0) Ex Eb dL_isCheaper_17 rfl ?_
      refine lo_last E hJ hw 145 rfl dL_isCheaper_18 (fun H locs f hf hw => ?_)
      refine lv_goto Ex Eb dL_isCheaper_19 rfl ?_
      have hw : lo_Wd X ((clB X ad pa pb qa qb ra rb ha hb Z9).flatten ++ [arJ cJ oa 1 f]) A9 s9.heap H locs := hw
      refine lv_iconst (v := iI 0) Ex Eb dL_isCheaper_30 rfl ?_
      exact lo_iret E hr hlocks hK hA hw dL_isCheaper_31 rfl ⟨0, Z9, f, Or.inl ⟨rfl, zz, hF, hf.trans (if_pos hz).symm⟩, rfl, rfl⟩
    · refine lv_lconst (v := iL 1) Ex Eb dL_isCheaper_13 rfl ?_
      refine lv_goto Ex Eb dL_isCheaper_14 rfl ?_
      refine lo_last E hJ hw 145 rfl dL_isCheaper_18 (fun H locs f hf hw => ?_)
      refine lv_goto Ex Eb dL_isCheaper_19 rfl ?_
      have hw : lo_Wd X ((clB X ad pa pb qa qb ra rb ha hb Z9).flatten ++ [arJ cJ oa 1 f]) A9 s9.heap H locs := hw
      refine lv_iconst (v := iI 0) Ex Eb dL_isCheaper_30 rfl ?_
      exact lo_iret E hr hlocks hK hA hw dL_isCheaper_31 rfl ⟨0, Z9, f, Or.inl ⟨rfl, zz, hF, hf.trans (if_neg hz).symm⟩, rfl, rfl⟩
def W7_skipsWithin (Z : CZ) (i : Int) (k : Int) (kk : Int) (Z9 : CZ) (g9 : Nat → Int64) : Prop := (kk = 0 ∧ ∃ zz : Int, F7_skipsWithin Z i k zz Z9 ∧ g9 0 = (iI zz).toInt64) ∨ (kk = 1 ∧ T7_skipsWithin Z i k "java/lang/IndexOutOfBoundsException" Z9) ∨ (kk = 2 ∧ T7_skipsWithin Z i k "java/lang/IllegalArgumentException" Z9)
theorem T7_skipsWithin_E {Z Z9 : CZ} {i : Int} {k : Int} {E9 : String} (h : T7_skipsWithin Z i k E9 Z9) : E9 = "java/lang/IndexOutOfBoundsException" ∨ E9 = "java/lang/IllegalArgumentException" := by
  obtain ⟨B9, f0, -⟩ := h
  first | exact f0.imp (fun q => q.1) (fun q => q.1)
set_option maxHeartbeats 1000000 in
set_option maxRecDepth 100000 in
theorem kL_skipsWithin (l : Launch) (X : KX) (cJ : ClassId) (kS : Nat → Nat) (hst : l.stackTraces = false) (ad pa pb qa qb ra rb : Nat → Nat) (ha hb : Nat → Nat → Nat) (Z : CZ) (Y : RZ) (hS : SIM Z Y) (i : Int) (k : Int) (hi9 : i32 i) (hk9 : i32 k) (oa : Nat) (g : Nat → Int64) : CL l X cJ kS yL_skipsWithin wsL_skipsWithin ({ frames := 8, cells := 2, slots := 12, locals := 146 }) [.ref (ad 0), .int (iI i), .int (iI k), .ref oa] ((clB X ad pa pb qa qb ra rb ha hb Z).flatten ++ [arJ cJ oa 1 g]) (fun v9 w9 => ∃ (kk : Int) (Z9 : CZ) (g9 : Nat → Int64), W7_skipsWithin Z i k kk Z9 g9 ∧ v9 = some (.int (iI kk)) ∧ w9 = (clB X ad pa pb qa qb ra rb ha hb Z9).flatten ++ [arJ cJ oa 1 g9]) 2 12 := by
  refine lo_enterL (cc := cL_skipsWithin) (maxL := 5) (ret := some .int) (hh := [(0, 10, 13, 24), (0, 10, 17, 13)]) (lv := [(0, .ref (ad 0)), (1, .int (iI i)), (2, .int (iI k)), (3, .ref oa)]) (by decide) rfl rfl (Nat.le_of_ble_eq_true rfl) ?_
  intro p9 e9 s9 m9 bl9 me9 c9 A9 ls hA E hr hlocks hK hl hw hV hT hJ
  have Ex := E.1
  have Eb := E.2.1
  refine lv_aload_n Ex Eb dL_skipsWithin_0 rfl (lv_at hl 3 rfl) ?_
  refine lv_iconst (v := iI 0) Ex Eb dL_skipsWithin_1 rfl ?_
  refine lv_aload_n Ex Eb dL_skipsWithin_2 rfl (lv_at hl 0 rfl) ?_
  refine lv_iload_n Ex Eb dL_skipsWithin_3 rfl (lv_at hl 1 rfl) ?_
  refine lv_iload_n Ex Eb dL_skipsWithin_4 rfl (lv_at hl 2 rfl) ?_
  refine lo_callVT (q0 := 0) (rest := [.int (iI 0), .ref oa]) E hK hw hV (vX7_skipsWithin l X kS hst ad pa pb qa qb ra rb ha hb Z Y hS i k hi9 hk9) (cwV 2 E.2.2.2.2 gL_skipsWithin_X7_skipsWithin rfl rfl rfl (by decide +kernel) ⟨Nat.le_of_ble_eq_true rfl, Nat.le_of_ble_eq_true rfl⟩) rfl rfl (List.range' 0 145) (lo_ps_hd clB_n) (by decide +kernel) hl.1 rfl rfl (Nat.le_of_ble_eq_true rfl) dL_skipsWithin_5 ⟨Nat.le_of_ble_eq_true rfl, Nat.le_of_ble_eq_true rfl⟩ (fun E9 ce9 q9 w1 H locs hq hw hx1 hx2 hx3 => ?_) (fun v w1 H locs hq hw => ?_)
  · obtain ⟨Z9, hT7, rfl⟩ := hq
    have hw : lo_Wd X ((clB X ad pa pb qa qb ra rb ha hb Z9).flatten ++ [arJ cJ oa 1 g]) A9 s9.heap H locs := lo_cast (lo_sets_hd clB_n clB_n) hw
    rcases T7_skipsWithin_E hT7 with rfl | rfl
    · refine lo_catch (name := "java/lang/IndexOutOfBoundsException") E [] (exE (0, 10, 13, 24)) [exE (0, 10, 17, 13)] (hT.trans rfl) (pass0 ) rfl (by decide) (E.2.2.2.2 _ (List.mem_of_getElem? (i := 1) rfl)) (hV.2.2.2.2.2.2.2 _ (List.mem_of_getElem? (i := 5) rfl)) hx1 hx2 hx3 ?_
      refine W.eq (g2 := F0 m9 13 ls [.ref q9]) rfl ?_
      refine lv_astore (lv' := [(4, .ref q9), (0, .ref (ad 0)), (1, .int (iI i)), (2, .int (iI k)), (3, .ref oa)]) Ex Eb dL_skipsWithin_13 hl (by decide) rfl (fun ls hl => ?_)
      refine lv_iconst (v := iI 1) Ex Eb dL_skipsWithin_15 rfl ?_
      exact lo_iret E hr hlocks hK hA hw dL_skipsWithin_16 rfl ⟨1, Z9, g, Or.inr (Or.inl ⟨rfl, hT7⟩), rfl, rfl⟩
    · refine lo_catch (name := "java/lang/IllegalArgumentException") E [exE (0, 10, 13, 24)] (exE (0, 10, 17, 13)) [] (hT.trans rfl) (pass1 (Or.inr ⟨by decide, "java/lang/IndexOutOfBoundsException", E.2.2.2.2 _ (List.mem_of_getElem? (i := 1) rfl), hJ.2.2.2⟩)) rfl (by decide) (E.2.2.2.2 _ (List.mem_of_getElem? (i := 2) rfl)) (hV.2.2.2.2.2.2.2 _ (List.mem_of_getElem? (i := 3) rfl)) hx1 hx2 hx3 ?_
      refine W.eq (g2 := F0 m9 17 ls [.ref q9]) rfl ?_
      refine lv_astore (lv' := [(4, .ref q9), (0, .ref (ad 0)), (1, .int (iI i)), (2, .int (iI k)), (3, .ref oa)]) Ex Eb dL_skipsWithin_17 hl (by decide) rfl (fun ls hl => ?_)
      refine lv_iconst (v := iI 2) Ex Eb dL_skipsWithin_19 rfl ?_
      exact lo_iret E hr hlocks hK hA hw dL_skipsWithin_20 rfl ⟨2, Z9, g, Or.inr (Or.inr (⟨rfl, hT7⟩)), rfl, rfl⟩
  · obtain ⟨zz, Z9, hF, rfl, rfl⟩ := hq
    have hw : lo_Wd X ((clB X ad pa pb qa qb ra rb ha hb Z9).flatten ++ [arJ cJ oa 1 g]) A9 s9.heap H locs := lo_cast (lo_sets_hd clB_n clB_n) hw
    refine W.eq (g2 := F0 m9 8 ls [.int (iI zz), .int (iI 0), .ref oa]) rfl ?_
    refine lv_i2l Ex Eb dL_skipsWithin_8 rfl ?_
    refine lo_last E hJ hw 145 rfl dL_skipsWithin_9 (fun H locs f hf hw => ?_)
    refine lv_goto Ex Eb dL_skipsWithin_10 rfl ?_
    have hw : lo_Wd X ((clB X ad pa pb qa qb ra rb ha hb Z9).flatten ++ [arJ cJ oa 1 f]) A9 s9.heap H locs := hw
    refine lv_iconst (v := iI 0) Ex Eb dL_skipsWithin_21 rfl ?_
    exact lo_iret E hr hlocks hK hA hw dL_skipsWithin_22 rfl ⟨0, Z9, f, Or.inl ⟨rfl, zz, hF, hf⟩, rfl, rfl⟩
def W7_budgetMonths (Z : CZ) (k : Int) (y : Int) (kk : Int) (Z9 : CZ) (g9 : Nat → Int64) : Prop := (kk = 0 ∧ ∃ zz : Int, F7_budgetMonths Z k y zz Z9 ∧ g9 0 = (iI zz).toInt64) ∨ (kk = 1 ∧ T7_budgetMonths Z k y "java/lang/IllegalArgumentException" Z9)
theorem T7_budgetMonths_E {Z Z9 : CZ} {k : Int} {y : Int} {E9 : String} (h : T7_budgetMonths Z k y E9 Z9) : E9 = "java/lang/IllegalArgumentException" := by
  obtain ⟨f0, f1, -⟩ := h
  first | exact f0 | exact f0.1
set_option maxHeartbeats 1000000 in
set_option maxRecDepth 100000 in
theorem kL_budgetMonths (l : Launch) (X : KX) (cJ : ClassId) (kS : Nat → Nat) (hst : l.stackTraces = false) (ad pa pb qa qb ra rb : Nat → Nat) (ha hb : Nat → Nat → Nat) (Z : CZ) (Y : RZ) (hS : SIM Z Y) (k : Int) (y : Int) (hk9 : i32 k) (hy : y = 0 ∨ y = 1) (oa : Nat) (g : Nat → Int64) : CL l X cJ kS yL_budgetMonths wsL_budgetMonths ({ frames := 8, cells := 1, slots := 6, locals := 178 }) [.ref (ad 0), .int (iI k), .int (iI y), .ref oa] ((clB X ad pa pb qa qb ra rb ha hb Z).flatten ++ [arJ cJ oa 1 g]) (fun v9 w9 => ∃ (kk : Int) (Z9 : CZ) (g9 : Nat → Int64), W7_budgetMonths Z k y kk Z9 g9 ∧ v9 = some (.int (iI kk)) ∧ w9 = (clB X ad pa pb qa qb ra rb ha hb Z9).flatten ++ [arJ cJ oa 1 g9]) 1 6 := by
  refine lo_enterL (cc := cL_budgetMonths) (maxL := 5) (ret := some .int) (hh := [(0, 10, 13, 13)]) (lv := [(0, .ref (ad 0)), (1, .int (iI k)), (2, .int (iI y)), (3, .ref oa)]) (by decide) rfl rfl (Nat.le_of_ble_eq_true rfl) ?_
  intro p9 e9 s9 m9 bl9 me9 c9 A9 ls hA E hr hlocks hK hl hw hV hT hJ
  have Ex := E.1
  have Eb := E.2.1
  refine lv_aload_n Ex Eb dL_budgetMonths_0 rfl (lv_at hl 3 rfl) ?_
  refine lv_iconst (v := iI 0) Ex Eb dL_budgetMonths_1 rfl ?_
  refine lv_aload_n Ex Eb dL_budgetMonths_2 rfl (lv_at hl 0 rfl) ?_
  refine lv_iload_n Ex Eb dL_budgetMonths_3 rfl (lv_at hl 1 rfl) ?_
  refine lv_iload_n Ex Eb dL_budgetMonths_4 rfl (lv_at hl 2 rfl) ?_
  refine lo_callVT (q0 := 0) (rest := [.int (iI 0), .ref oa]) E hK hw hV (vX7_budgetMonths l X kS hst ad pa pb qa qb ra rb ha hb Z Y hS k y hk9 hy) (cwV 2 E.2.2.2.2 gL_budgetMonths_X7_budgetMonths rfl rfl rfl (by decide +kernel) ⟨Nat.le_of_ble_eq_true rfl, Nat.le_of_ble_eq_true rfl⟩) rfl rfl (List.range' 0 145) (lo_ps_hd clB_n) (by decide +kernel) hl.1 rfl rfl (Nat.le_of_ble_eq_true rfl) dL_budgetMonths_5 ⟨Nat.le_of_ble_eq_true rfl, Nat.le_of_ble_eq_true rfl⟩ (fun E9 ce9 q9 w1 H locs hq hw hx1 hx2 hx3 => ?_) (fun v w1 H locs hq hw => ?_)
  · obtain ⟨Z9, hT7, rfl⟩ := hq
    have hw : lo_Wd X ((clB X ad pa pb qa qb ra rb ha hb Z9).flatten ++ [arJ cJ oa 1 g]) A9 s9.heap H locs := lo_cast (lo_sets_hd clB_n clB_n) hw
    rcases T7_budgetMonths_E hT7 with rfl
    · refine lo_catch (name := "java/lang/IllegalArgumentException") E [] (exE (0, 10, 13, 13)) [] (hT.trans rfl) (pass0 ) rfl (by decide) (E.2.2.2.2 _ (List.mem_of_getElem? (i := 1) rfl)) (hV.2.2.2.2.2.2.2 _ (List.mem_of_getElem? (i := 3) rfl)) hx1 hx2 hx3 ?_
      refine W.eq (g2 := F0 m9 13 ls [.ref q9]) rfl ?_
      refine lv_astore (lv' := [(4, .ref q9), (0, .ref (ad 0)), (1, .int (iI k)), (2, .int (iI y)), (3, .ref oa)]) Ex Eb dL_budgetMonths_13 hl (by decide) rfl (fun ls hl => ?_)
      refine lv_iconst (v := iI 1) Ex Eb dL_budgetMonths_15 rfl ?_
      exact lo_iret E hr hlocks hK hA hw dL_budgetMonths_16 rfl ⟨1, Z9, g, Or.inr (⟨rfl, hT7⟩), rfl, rfl⟩
  · obtain ⟨zz, Z9, hF, rfl, rfl⟩ := hq
    have hw : lo_Wd X ((clB X ad pa pb qa qb ra rb ha hb Z9).flatten ++ [arJ cJ oa 1 g]) A9 s9.heap H locs := lo_cast (lo_sets_hd clB_n clB_n) hw
    refine W.eq (g2 := F0 m9 8 ls [.int (iI zz), .int (iI 0), .ref oa]) rfl ?_
    refine lv_i2l Ex Eb dL_budgetMonths_8 rfl ?_
    refine lo_last E hJ hw 145 rfl dL_budgetMonths_9 (fun H locs f hf hw => ?_)
    refine lv_goto Ex Eb dL_budgetMonths_10 rfl ?_
    have hw : lo_Wd X ((clB X ad pa pb qa qb ra rb ha hb Z9).flatten ++ [arJ cJ oa 1 f]) A9 s9.heap H locs := hw
    refine lv_iconst (v := iI 0) Ex Eb dL_budgetMonths_17 rfl ?_
    exact lo_iret E hr hlocks hK hA hw dL_budgetMonths_18 rfl ⟨0, Z9, f, Or.inl ⟨rfl, zz, hF, hf⟩, rfl, rfl⟩
def W7_budgetInterest (Z : CZ) (k : Int) (y : Int) (kk : Int) (Z9 : CZ) (g9 : Nat → Int64) : Prop := (kk = 0 ∧ ∃ zz : Int, F7_budgetInterest Z k y zz Z9 ∧ g9 0 = (iI zz).toInt64) ∨ (kk = 1 ∧ T7_budgetInterest Z k y "java/lang/IllegalArgumentException" Z9)
theorem T7_budgetInterest_E {Z Z9 : CZ} {k : Int} {y : Int} {E9 : String} (h : T7_budgetInterest Z k y E9 Z9) : E9 = "java/lang/IllegalArgumentException" := by
  obtain ⟨f0, f1, -⟩ := h
  first | exact f0 | exact f0.1
set_option maxHeartbeats 1000000 in
set_option maxRecDepth 100000 in
theorem kL_budgetInterest (l : Launch) (X : KX) (cJ : ClassId) (kS : Nat → Nat) (hst : l.stackTraces = false) (ad pa pb qa qb ra rb : Nat → Nat) (ha hb : Nat → Nat → Nat) (Z : CZ) (Y : RZ) (hS : SIM Z Y) (k : Int) (y : Int) (hk9 : i32 k) (hy : y = 0 ∨ y = 1) (oa : Nat) (g : Nat → Int64) : CL l X cJ kS yL_budgetInterest wsL_budgetInterest ({ frames := 8, cells := 1, slots := 6, locals := 178 }) [.ref (ad 0), .int (iI k), .int (iI y), .ref oa] ((clB X ad pa pb qa qb ra rb ha hb Z).flatten ++ [arJ cJ oa 1 g]) (fun v9 w9 => ∃ (kk : Int) (Z9 : CZ) (g9 : Nat → Int64), W7_budgetInterest Z k y kk Z9 g9 ∧ v9 = some (.int (iI kk)) ∧ w9 = (clB X ad pa pb qa qb ra rb ha hb Z9).flatten ++ [arJ cJ oa 1 g9]) 1 6 := by
  refine lo_enterL (cc := cL_budgetInterest) (maxL := 5) (ret := some .int) (hh := [(0, 10, 13, 13)]) (lv := [(0, .ref (ad 0)), (1, .int (iI k)), (2, .int (iI y)), (3, .ref oa)]) (by decide) rfl rfl (Nat.le_of_ble_eq_true rfl) ?_
  intro p9 e9 s9 m9 bl9 me9 c9 A9 ls hA E hr hlocks hK hl hw hV hT hJ
  have Ex := E.1
  have Eb := E.2.1
  refine lv_aload_n Ex Eb dL_budgetInterest_0 rfl (lv_at hl 3 rfl) ?_
  refine lv_iconst (v := iI 0) Ex Eb dL_budgetInterest_1 rfl ?_
  refine lv_aload_n Ex Eb dL_budgetInterest_2 rfl (lv_at hl 0 rfl) ?_
  refine lv_iload_n Ex Eb dL_budgetInterest_3 rfl (lv_at hl 1 rfl) ?_
  refine lv_iload_n Ex Eb dL_budgetInterest_4 rfl (lv_at hl 2 rfl) ?_
  refine lo_callVT (q0 := 0) (rest := [.int (iI 0), .ref oa]) E hK hw hV (vX7_budgetInterest l X kS hst ad pa pb qa qb ra rb ha hb Z Y hS k y hk9 hy) (cwV 2 E.2.2.2.2 gL_budgetInterest_X7_budgetInterest rfl rfl rfl (by decide +kernel) ⟨Nat.le_of_ble_eq_true rfl, Nat.le_of_ble_eq_true rfl⟩) rfl rfl (List.range' 0 145) (lo_ps_hd clB_n) (by decide +kernel) hl.1 rfl rfl (Nat.le_of_ble_eq_true rfl) dL_budgetInterest_5 ⟨Nat.le_of_ble_eq_true rfl, Nat.le_of_ble_eq_true rfl⟩ (fun E9 ce9 q9 w1 H locs hq hw hx1 hx2 hx3 => ?_) (fun v w1 H locs hq hw => ?_)
  · obtain ⟨Z9, hT7, rfl⟩ := hq
    have hw : lo_Wd X ((clB X ad pa pb qa qb ra rb ha hb Z9).flatten ++ [arJ cJ oa 1 g]) A9 s9.heap H locs := lo_cast (lo_sets_hd clB_n clB_n) hw
    rcases T7_budgetInterest_E hT7 with rfl
    · refine lo_catch (name := "java/lang/IllegalArgumentException") E [] (exE (0, 10, 13, 13)) [] (hT.trans rfl) (pass0 ) rfl (by decide) (E.2.2.2.2 _ (List.mem_of_getElem? (i := 1) rfl)) (hV.2.2.2.2.2.2.2 _ (List.mem_of_getElem? (i := 3) rfl)) hx1 hx2 hx3 ?_
      refine W.eq (g2 := F0 m9 13 ls [.ref q9]) rfl ?_
      refine lv_astore (lv' := [(4, .ref q9), (0, .ref (ad 0)), (1, .int (iI k)), (2, .int (iI y)), (3, .ref oa)]) Ex Eb dL_budgetInterest_13 hl (by decide) rfl (fun ls hl => ?_)
      refine lv_iconst (v := iI 1) Ex Eb dL_budgetInterest_15 rfl ?_
      exact lo_iret E hr hlocks hK hA hw dL_budgetInterest_16 rfl ⟨1, Z9, g, Or.inr (⟨rfl, hT7⟩), rfl, rfl⟩
  · obtain ⟨zz, Z9, hF, rfl, rfl⟩ := hq
    have hw : lo_Wd X ((clB X ad pa pb qa qb ra rb ha hb Z9).flatten ++ [arJ cJ oa 1 g]) A9 s9.heap H locs := lo_cast (lo_sets_hd clB_n clB_n) hw
    refine W.eq (g2 := F0 m9 8 ls [.int (iI zz), .int (iI 0), .ref oa]) rfl ?_
    refine lv_i2l Ex Eb dL_budgetInterest_8 rfl ?_
    refine lo_last E hJ hw 145 rfl dL_budgetInterest_9 (fun H locs f hf hw => ?_)
    refine lv_goto Ex Eb dL_budgetInterest_10 rfl ?_
    have hw : lo_Wd X ((clB X ad pa pb qa qb ra rb ha hb Z9).flatten ++ [arJ cJ oa 1 f]) A9 s9.heap H locs := hw
    refine lv_iconst (v := iI 0) Ex Eb dL_budgetInterest_17 rfl ?_
    exact lo_iret E hr hlocks hK hA hw dL_budgetInterest_18 rfl ⟨0, Z9, f, Or.inl ⟨rfl, zz, hF, hf⟩, rfl, rfl⟩
def W7_writeSchedule (Z : CZ) (i : Int) (kk : Int) (Z9 : CZ) (g9 : Nat → Int64) : Prop := (kk = 0 ∧ ∃ zz : Int, F7_writeSchedule Z i zz Z9 ∧ g9 0 = (iI zz).toInt64) ∨ (kk = 1 ∧ T7_writeSchedule Z i "java/lang/IndexOutOfBoundsException" Z9)
theorem T7_writeSchedule_E {Z Z9 : CZ} {i : Int} {E9 : String} (h : T7_writeSchedule Z i E9 Z9) : E9 = "java/lang/IndexOutOfBoundsException" := by
  obtain ⟨f0, f1, -⟩ := h
  first | exact f0 | exact f0.1
set_option maxHeartbeats 1000000 in
set_option maxRecDepth 100000 in
theorem kL_writeSchedule (l : Launch) (X : KX) (cJ : ClassId) (kS : Nat → Nat) (hst : l.stackTraces = false) (ad pa pb qa qb ra rb : Nat → Nat) (ha hb : Nat → Nat → Nat) (Z : CZ) (Y : RZ) (hS : SIM Z Y) (i : Int) (hi9 : i32 i) (oa : Nat) (g : Nat → Int64) : CL l X cJ kS yL_writeSchedule wsL_writeSchedule ({ frames := 8, cells := 1, slots := 6, locals := 145 }) [.ref (ad 0), .int (iI i), .ref oa] ((clB X ad pa pb qa qb ra rb ha hb Z).flatten ++ [arJ cJ oa 1 g]) (fun v9 w9 => ∃ (kk : Int) (Z9 : CZ) (g9 : Nat → Int64), W7_writeSchedule Z i kk Z9 g9 ∧ v9 = some (.int (iI kk)) ∧ w9 = (clB X ad pa pb qa qb ra rb ha hb Z9).flatten ++ [arJ cJ oa 1 g9]) 1 6 := by
  refine lo_enterL (cc := cL_writeSchedule) (maxL := 4) (ret := some .int) (hh := [(0, 9, 12, 24)]) (lv := [(0, .ref (ad 0)), (1, .int (iI i)), (2, .ref oa)]) (by decide) rfl rfl (Nat.le_of_ble_eq_true rfl) ?_
  intro p9 e9 s9 m9 bl9 me9 c9 A9 ls hA E hr hlocks hK hl hw hV hT hJ
  have Ex := E.1
  have Eb := E.2.1
  refine lv_aload_n Ex Eb dL_writeSchedule_0 rfl (lv_at hl 2 rfl) ?_
  refine lv_iconst (v := iI 0) Ex Eb dL_writeSchedule_1 rfl ?_
  refine lv_aload_n Ex Eb dL_writeSchedule_2 rfl (lv_at hl 0 rfl) ?_
  refine lv_iload_n Ex Eb dL_writeSchedule_3 rfl (lv_at hl 1 rfl) ?_
  refine lo_callVT (q0 := 0) (rest := [.int (iI 0), .ref oa]) E hK hw hV (vX7_writeSchedule l X kS hst ad pa pb qa qb ra rb ha hb Z Y hS i hi9) (cwV 1 E.2.2.2.2 gL_writeSchedule_X7_writeSchedule rfl rfl rfl (by decide +kernel) ⟨Nat.le_of_ble_eq_true rfl, Nat.le_of_ble_eq_true rfl⟩) rfl rfl (List.range' 0 145) (lo_ps_hd clB_n) (by decide +kernel) hl.1 rfl rfl (Nat.le_of_ble_eq_true rfl) dL_writeSchedule_4 ⟨Nat.le_of_ble_eq_true rfl, Nat.le_of_ble_eq_true rfl⟩ (fun E9 ce9 q9 w1 H locs hq hw hx1 hx2 hx3 => ?_) (fun v w1 H locs hq hw => ?_)
  · obtain ⟨Z9, hT7, rfl⟩ := hq
    have hw : lo_Wd X ((clB X ad pa pb qa qb ra rb ha hb Z9).flatten ++ [arJ cJ oa 1 g]) A9 s9.heap H locs := lo_cast (lo_sets_hd clB_n clB_n) hw
    rcases T7_writeSchedule_E hT7 with rfl
    · refine lo_catch (name := "java/lang/IndexOutOfBoundsException") E [] (exE (0, 9, 12, 24)) [] (hT.trans rfl) (pass0 ) rfl (by decide) (E.2.2.2.2 _ (List.mem_of_getElem? (i := 1) rfl)) (hV.2.2.2.2.2.2.2 _ (List.mem_of_getElem? (i := 5) rfl)) hx1 hx2 hx3 ?_
      refine W.eq (g2 := F0 m9 12 ls [.ref q9]) rfl ?_
      refine lv_astore_n (lv' := [(3, .ref q9), (0, .ref (ad 0)), (1, .int (iI i)), (2, .ref oa)]) Ex Eb dL_writeSchedule_12 rfl hl (by decide) rfl (fun ls hl => ?_)
      refine lv_iconst (v := iI 1) Ex Eb dL_writeSchedule_13 rfl ?_
      exact lo_iret E hr hlocks hK hA hw dL_writeSchedule_14 rfl ⟨1, Z9, g, Or.inr (⟨rfl, hT7⟩), rfl, rfl⟩
  · obtain ⟨zz, Z9, hF, rfl, rfl⟩ := hq
    have hw : lo_Wd X ((clB X ad pa pb qa qb ra rb ha hb Z9).flatten ++ [arJ cJ oa 1 g]) A9 s9.heap H locs := lo_cast (lo_sets_hd clB_n clB_n) hw
    refine W.eq (g2 := F0 m9 7 ls [.int (iI zz), .int (iI 0), .ref oa]) rfl ?_
    refine lv_i2l Ex Eb dL_writeSchedule_7 rfl ?_
    refine lo_last E hJ hw 145 rfl dL_writeSchedule_8 (fun H locs f hf hw => ?_)
    refine lv_goto Ex Eb dL_writeSchedule_9 rfl ?_
    have hw : lo_Wd X ((clB X ad pa pb qa qb ra rb ha hb Z9).flatten ++ [arJ cJ oa 1 f]) A9 s9.heap H locs := hw
    refine lv_iconst (v := iI 0) Ex Eb dL_writeSchedule_15 rfl ?_
    exact lo_iret E hr hlocks hK hA hw dL_writeSchedule_16 rfl ⟨0, Z9, f, Or.inl ⟨rfl, zz, hF, hf⟩, rfl, rfl⟩
