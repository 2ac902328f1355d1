theorem dJ9_floorMod_7cf53_0 : decode cJ9_floorMod_7cf53 0 = .ok (.iload_n 0, 1) := by decide +kernel
theorem dJ9_floorMod_7cf53_1 : decode cJ9_floorMod_7cf53 1 = .ok (.iload_n 1, 1) := by decide +kernel
theorem dJ9_floorMod_7cf53_2 : decode cJ9_floorMod_7cf53 2 = .ok (.irem, 1) := by decide +kernel
theorem dJ9_floorMod_7cf53_3 : decode cJ9_floorMod_7cf53 3 = .ok (.istore_n 2, 1) := by decide +kernel
theorem dJ9_floorMod_7cf53_4 : decode cJ9_floorMod_7cf53 4 = .ok (.iload_n 0, 1) := by decide +kernel
theorem dJ9_floorMod_7cf53_5 : decode cJ9_floorMod_7cf53 5 = .ok (.iload_n 1, 1) := by decide +kernel
theorem dJ9_floorMod_7cf53_6 : decode cJ9_floorMod_7cf53 6 = .ok (.ixor, 1) := by decide +kernel
theorem dJ9_floorMod_7cf53_7 : decode cJ9_floorMod_7cf53 7 = .ok (.ifCond .ge 11, 3) := by decide +kernel
theorem dJ9_floorMod_7cf53_10 : decode cJ9_floorMod_7cf53 10 = .ok (.iload_n 2, 1) := by decide +kernel
theorem dJ9_floorMod_7cf53_11 : decode cJ9_floorMod_7cf53 11 = .ok (.ifCond .eq 7, 3) := by decide +kernel
theorem dJ9_floorMod_7cf53_14 : decode cJ9_floorMod_7cf53 14 = .ok (.iload_n 2, 1) := by decide +kernel
theorem dJ9_floorMod_7cf53_15 : decode cJ9_floorMod_7cf53 15 = .ok (.iload_n 1, 1) := by decide +kernel
theorem dJ9_floorMod_7cf53_16 : decode cJ9_floorMod_7cf53 16 = .ok (.iadd, 1) := by decide +kernel
theorem dJ9_floorMod_7cf53_17 : decode cJ9_floorMod_7cf53 17 = .ok (.ireturn, 1) := by decide +kernel
theorem dJ9_floorMod_7cf53_18 : decode cJ9_floorMod_7cf53 18 = .ok (.iload_n 2, 1) := by decide +kernel
theorem dJ9_floorMod_7cf53_19 : decode cJ9_floorMod_7cf53 19 = .ok (.ireturn, 1) := by decide +kernel
/-- a method of a class of which some methods are run by the machine itself, but not this one (follows Met.ofW of the kit) -/
theorem lw_MetF {l : Launch} {y : MethodName} {ws ws' : List Cond} {rm : Room} {Pc : Array Value → State → Prop} {Qc : Array Value → State → Outcome → State → Prop} {mc ms : Nat} {free : Addr → Prop} {cc : ByteArray} {maxL : Nat} {ret : Option FieldType}
    (hy : plainFor y = true) (hw : ws = Cond.code y cc maxL ret :: ws')
    (body : ∀ p e s m args below meth c s₁, BodyLoose p l y (headSpec ws rm) cc maxL ret e s m args below meth c s₁ → c.maxLocals = maxL → Pc args s →
      W p l e (headSpec ws rm).room s m args below meth c s.heap [] 0 0 (MQ below Qc args s mc ms free) (entryFrame m args maxL)) : Met l y ws rm Pc Qc mc ms free := by
  refine MetFree.of_bodySF (code := cc) (maxLocals := maxL) (ret := ret) hy ?_ ?_
  · intro args s m h hn
    obtain ⟨meth, c, h1, h2, h3, h4, h5, h6, -, -⟩ := Cond.code_spec hn (atoms_spec (ws := ws) h _ (by rw [hw]; exact List.mem_cons_self))
    exact ⟨meth, c, h1, h2, h3, h4, h5, h6⟩
  · intro p e s m args below meth c s₁ B hml hP _
    have hh0 : s₁.heap = s.heap := by rw [B.state]; rfl
    obtain ⟨t, a1, o, b1, b2, b3⟩ := body p e s m args below meth c s₁ B hml hP s₁ hh0 (Stand.of_body B)
    exact ⟨t, o, a1, b1, b2, ⟨b3.1, b3.2⟩⟩
theorem lo_enterEF {l : Launch} {X : KX} {kS : Nat → Nat} {y : MethodName} {ws ws' : List Cond} {rm : Room} {cc : ByteArray} {maxL mc ms : Nat} {ret : Option FieldType} {as : List Value} {w0 : va_W} {post : Option Value → va_W → Prop} {lv : List (Nat × Value)} (hy : plainFor y = true) (hw : ws = Cond.code y cc maxL ret :: ws') (hlv : lv_args 0 as = lv) (hn : (lg_sl as).length ≤ maxL)
    (body : ∀ (p : Program) (e : Env) (s : State) (m : MethodId) (below : List Frame) (meth : Method) (c : Code) (A : Nat → Prop) (ls : Array Slot), A = va_A w0 s.heap.size → CallFix p m c cc maxL s as.toArray ws y.cls → meth.sig.returnType = ret → meth.locks = false → lo_K X s → lv_has ls maxL lv → lo_Wd X w0 A s.heap s.heap [] → lo_Ev kS A s s.heap →
      W p l e rm s m as.toArray below meth c s.heap [] 0 0 (MQ below (lo_Qc X w0 s.heap.size post) as.toArray s mc ms A) (F0 m 0 ls [])) : CE l X kS y ws rm as w0 post mc ms := by
  intro sz
  refine lw_MetF (cc := cc) (maxL := maxL) (ret := ret) hy hw ?_
  intro p e s m args below meth c s₁ B hml hv
  obtain ⟨rfl, ⟨hsz, hP, hK, hD0⟩, hE⟩ := hv
  subst hsz
  rw [lg_entry_eq]
  have hl := lv_entry as hn
  rw [hlv] at hl
  exact body p e s m below meth c _ _ rfl ⟨B.exec, B.bytes, hml, findClass_of_methodNamed B.named, atoms_spec (ws := ws) B.pre⟩ B.returns B.notSynchronized hK hl ⟨hP, hD0.self, va_S.rf, fun q h => Or.inr h⟩ hE
theorem kL_cell (l : Launch) (X : KX) (kS : Nat → Nat) (k : Int) (hk : 0 ≤ k ∧ k ≤ 200) : CE l X kS yL_cell wsL_cell ({ frames := 0, cells := 0, slots := 0, locals := 0 }) [.ref (kS 21), .int (iI k)] [] (fun v9 w9 => ∃ z : Int, (i32 z) ∧ v9 = some (.int (iI z)) ∧ w9 = []) 0 0 := by
  refine lo_enterE (cc := cL_cell) (maxL := 2) (ret := some .int) (lv := [(0, .ref (kS 21)), (1, .int (iI k))]) (by decide) rfl rfl (Nat.le_of_ble_eq_true rfl) ?_
  intro p9 e9 s9 m9 bl9 me9 c9 A9 ls hAe E hRt hLk hK hl hw hV
  have Ex := E.1
  have Eb := E.2.1
  obtain ⟨⟨n9, xs, hn9, hTs⟩, -⟩ := hV.1
  refine lv_iload_n Ex Eb dL_cell_0 rfl (lv_at hl 1 rfl) ?_
  refine lv_aload_n Ex Eb dL_cell_1 rfl (lv_at hl 0 rfl) ?_
  refine va_tlen (v := iI n9) Ex Eb hTs hw.2.2.1 rfl dL_cell_2 ?_
  refine lo_icmp_ge (tgt := 12) E dL_cell_3 (by decide) (by omega) (by omega) (fun c1 => ?_) (fun c1 => ?_)
  · refine lv_iconst (v := iI 0) Ex Eb dL_cell_12 rfl ?_
    exact lo_iret E hRt hLk hK hAe hw dL_cell_13 rfl ⟨0, by omega, rfl, rfl⟩
  · refine lv_aload_n Ex Eb dL_cell_6 rfl (lv_at hl 0 rfl) ?_
    refine lv_iload_n Ex Eb dL_cell_7 rfl (lv_at hl 1 rfl) ?_
    refine va_ti Ex Eb hTs hw.2.2.1 (iI_in (by omega) (by omega) (by omega)) rfl dL_cell_8 ?_
    refine lw_int (fun z hz => ?_)
    refine lv_goto (tgt := 13) Ex Eb dL_cell_9 (by decide) ?_
    exact lo_iret E hRt hLk hK hAe hw dL_cell_13 rfl ⟨z, hz, rfl, rfl⟩
set_option maxHeartbeats 4000000 in
set_option maxRecDepth 100000 in
theorem kL_amount (l : Launch) (X : KX) (kS : Nat → Nat) (u : Int) : CE l X kS yL_amount wsL_amount ({ frames := 0, cells := 0, slots := 0, locals := 0 }) [.int (iI u)] ([]) (fun v9 w9 => ∃ z : Int, (i32 z) ∧ v9 = some (.int (iI z)) ∧ w9 = []) 0 0 := by
  refine lo_enterE (cc := cL_amount) (maxL := 1) (ret := (some .int)) (lv := [(0, .int (iI u))]) (by decide) rfl rfl (Nat.le_of_ble_eq_true rfl) ?_
  intro p9 e9 s9 m9 bl9 me9 c9 A9 ls hAe E hRt hLk hK hl hw hV
  have Ex := E.1
  have Eb := E.2.1
  have hc154 : (Cond.constant RL 154 (50000)).before _ s9 = true := E.2.2.2.2 _ (List.mem_of_getElem? (i := 2) rfl)
  have hc153 : (Cond.constant RL 153 (9999999)).before _ s9 = true := E.2.2.2.2 _ (List.mem_of_getElem? (i := 1) rfl)
  refine lv_iconst (v := iI 1) Ex Eb dL_amount_0 rfl ?_
  refine lv_iload_n Ex Eb dL_amount_1 rfl (lv_at hl 0 rfl) ?_
  refine lv_iconst (v := iI 3) Ex Eb dL_amount_2 rfl ?_
  refine lw_irem E dL_amount_3 (by omega) (fun z1 hz1 => ?_)
  refine lo_if_ne (tgt := 17) E dL_amount_4 (by decide) (by omega) (fun c2 => ?_) (fun c2 => ?_)
  · skip
    refine lv_iload_n Ex Eb dL_amount_17 rfl (lv_at hl 0 rfl) ?_
    refine lv_iconst (v := iI 3) Ex Eb dL_amount_18 rfl ?_
    refine lw_irem E dL_amount_19 (by omega) (fun z3 hz3 => ?_)
    refine lv_iconst (v := iI 1) Ex Eb dL_amount_20 rfl ?_
    refine lo_icmp_ne (tgt := 34) E dL_amount_21 (by decide) (by omega) (by omega) (fun c4 => ?_) (fun c4 => ?_)
    · skip
      refine lv_iload_n Ex Eb dL_amount_34 rfl (lv_at hl 0 rfl) ?_
      refine lv_bipush (v := iI 8) Ex Eb dL_amount_35 rfl ?_
      refine lw_idiv E dL_amount_37 (by omega) (fun z5 hz5 => ?_)
      refine lv_sipush (v := iI 200) Ex Eb dL_amount_38 rfl ?_
      refine lw_irem E dL_amount_41 (by omega) (fun z6 hz6 => ?_)
      refine lw_iadd E dL_amount_42 (fun z7 hz7 => ?_)
      exact lo_iret E hRt hLk hK hAe hw dL_amount_43 rfl ⟨z7, (by omega), rfl, rfl⟩
    · skip
      refine lv_iload_n Ex Eb dL_amount_24 rfl (lv_at hl 0 rfl) ?_
      refine lv_bipush (v := iI 8) Ex Eb dL_amount_25 rfl ?_
      refine lw_idiv E dL_amount_27 (by omega) (fun z8 hz8 => ?_)
      refine lo_ldc (z := 50000) E hc154 dL_amount_28 rfl ?_
      refine lw_irem E dL_amount_30 (by omega) (fun z9 hz9 => ?_)
      refine lv_goto (tgt := 42) Ex Eb dL_amount_31 (by decide) ?_
      refine lw_iadd E dL_amount_42 (fun z10 hz10 => ?_)
      exact lo_iret E hRt hLk hK hAe hw dL_amount_43 rfl ⟨z10, (by omega), rfl, rfl⟩
  · skip
    refine lv_iload_n Ex Eb dL_amount_7 rfl (lv_at hl 0 rfl) ?_
    refine lv_bipush (v := iI 8) Ex Eb dL_amount_8 rfl ?_
    refine lw_idiv E dL_amount_10 (by omega) (fun z11 hz11 => ?_)
    refine lo_ldc (z := 9999999) E hc153 dL_amount_11 rfl ?_
    refine lw_irem E dL_amount_13 (by omega) (fun z12 hz12 => ?_)
    refine lv_goto (tgt := 42) Ex Eb dL_amount_14 (by decide) ?_
    refine lw_iadd E dL_amount_42 (fun z13 hz13 => ?_)
    exact lo_iret E hRt hLk hK hAe hw dL_amount_43 rfl ⟨z13, (by omega), rfl, rfl⟩
set_option maxHeartbeats 4000000 in
set_option maxRecDepth 100000 in
theorem kJ9_floorMod (l : Launch) (X : KX) (kS : Nat → Nat) (x y : Int) (hy : i32 y ∧ y ≠ 0) : CE l X kS yJ9_floorMod_7cf53 wsJ9_floorMod_7cf53 ({ frames := 0, cells := 0, slots := 0, locals := 0 }) [.int (iI x), .int (iI y)] ([]) (fun v9 w9 => ∃ z : Int, (i32 z) ∧ v9 = some (.int (iI z)) ∧ w9 = []) 0 0 := by
  refine lo_enterEF (cc := cJ9_floorMod_7cf53) (maxL := 3) (ret := (some .int)) (lv := [(0, .int (iI x)), (1, .int (iI y))]) (by decide +kernel) rfl rfl (Nat.le_of_ble_eq_true rfl) ?_
  intro p9 e9 s9 m9 bl9 me9 c9 A9 ls hAe E hRt hLk hK hl hw hV
  have Ex := E.1
  have Eb := E.2.1
  refine lv_iload_n Ex Eb dJ9_floorMod_7cf53_0 rfl (lv_at hl 0 rfl) ?_
  refine lv_iload_n Ex Eb dJ9_floorMod_7cf53_1 rfl (lv_at hl 1 rfl) ?_
  refine lw_irem E dJ9_floorMod_7cf53_2 (by omega) (fun z1 hz1 => ?_)
  refine lv_istore_n (lv' := [(2, .int (iI z1)), (0, .int (iI x)), (1, .int (iI y))]) Ex Eb dJ9_floorMod_7cf53_3 rfl hl (by decide) rfl (fun ls hl => ?_)
  refine lv_iload_n Ex Eb dJ9_floorMod_7cf53_4 rfl (lv_at hl 1 rfl) ?_
  refine lv_iload_n Ex Eb dJ9_floorMod_7cf53_5 rfl (lv_at hl 2 rfl) ?_
  refine lw_ixor E dJ9_floorMod_7cf53_6 (fun z2 hz2 => ?_)
  refine lw_if_ge (tgt := 18) E dJ9_floorMod_7cf53_7 (by decide) (by omega) (fun c3 => ?_) (fun c3 => ?_)
  · skip
    refine lv_iload_n Ex Eb dJ9_floorMod_7cf53_18 rfl (lv_at hl 0 rfl) ?_
    exact lo_iret E hRt hLk hK hAe hw dJ9_floorMod_7cf53_19 rfl ⟨z1, (by omega), rfl, rfl⟩
  · skip
    refine lv_iload_n Ex Eb dJ9_floorMod_7cf53_10 rfl (lv_at hl 0 rfl) ?_
    refine lo_if_eq (tgt := 18) E dJ9_floorMod_7cf53_11 (by decide) (by omega) (fun c4 => ?_) (fun c4 => ?_)
    · skip
      refine lv_iload_n Ex Eb dJ9_floorMod_7cf53_18 rfl (lv_at hl 0 rfl) ?_
      exact lo_iret E hRt hLk hK hAe hw dJ9_floorMod_7cf53_19 rfl ⟨z1, (by omega), rfl, rfl⟩
    · skip
      refine lv_iload_n Ex Eb dJ9_floorMod_7cf53_14 rfl (lv_at hl 0 rfl) ?_
      refine lv_iload_n Ex Eb dJ9_floorMod_7cf53_15 rfl (lv_at hl 2 rfl) ?_
      refine lw_iadd E dJ9_floorMod_7cf53_16 (fun z5 hz5 => ?_)
      exact lo_iret E hRt hLk hK hAe hw dJ9_floorMod_7cf53_17 rfl ⟨z5, (by omega), rfl, rfl⟩
set_option maxHeartbeats 4000000 in
set_option maxRecDepth 100000 in
theorem kL_of (l : Launch) (X : KX) (kS : Nat → Nat) (k lo many : Int) (hk : 0 ≤ k ∧ k ≤ 200) (hm : i32 many ∧ many ≠ 0) : CE l X kS yL_of wsL_of ({ frames := 1, cells := 0, slots := 0, locals := 22 }) [.ref (kS 21), .int (iI k), .int (iI lo), .int (iI many)] ([]) (fun v9 w9 => ∃ z : Int, (i32 z) ∧ v9 = some (.int (iI z)) ∧ w9 = []) 0 0 := by
  refine lo_enterE (cc := cL_of) (maxL := 4) (ret := (some .int)) (lv := [(0, .ref (kS 21)), (1, .int (iI k)), (2, .int (iI lo)), (3, .int (iI many))]) (by decide) rfl rfl (Nat.le_of_ble_eq_true rfl) ?_
  intro p9 e9 s9 m9 bl9 me9 c9 A9 ls hAe E hRt hLk hK hl hw hV
  have Ex := E.1
  have Eb := E.2.1
  refine lv_iload_n Ex Eb dL_of_0 rfl (lv_at hl 2 rfl) ?_
  refine lv_aload_n Ex Eb dL_of_1 rfl (lv_at hl 0 rfl) ?_
  refine lv_iload_n Ex Eb dL_of_2 rfl (lv_at hl 1 rfl) ?_
  refine lo_callSE (rest := [.int (iI lo)]) E hK hw hV (kL_cell l X kS k (by omega)) (cwS 2 E.2.2.2.2 gL_of_L_cell rfl rfl rfl (by decide +kernel) ⟨Nat.le_of_ble_eq_true rfl, Nat.le_of_ble_eq_true rfl⟩) [] rfl rfl hl.1 rfl rfl (Nat.le_of_ble_eq_true rfl) dL_of_3 ⟨Nat.le_of_ble_eq_true rfl, Nat.le_of_ble_eq_true rfl⟩ (fun v w1 H locs hq hw => ?_)
  obtain ⟨z1, hz1, rfl, rfl⟩ := hq
  refine W.eq (g2 := F0 m9 6 ls [.int (iI z1), .int (iI lo)]) rfl ?_
  refine lv_iload_n Ex Eb dL_of_6 rfl (lv_at hl 3 rfl) ?_
  refine lo_callSE (rest := [.int (iI lo)]) E hK hw hV (kJ9_floorMod l X kS z1 many (by omega)) (va_cwS 2 E.2.2.2.2 gL_of_J9_floorMod_7cf53 rfl rfl rfl (by decide +kernel) ⟨Nat.le_of_ble_eq_true rfl, Nat.le_of_ble_eq_true rfl⟩) [] rfl rfl hl.1 rfl rfl (Nat.le_of_ble_eq_true rfl) dL_of_7 ⟨Nat.le_of_ble_eq_true rfl, Nat.le_of_ble_eq_true rfl⟩ (fun v w1 H locs hq hw => ?_)
  obtain ⟨z2, hz2, rfl, rfl⟩ := hq
  refine W.eq (g2 := F0 m9 10 ls [.int (iI z2), .int (iI lo)]) rfl ?_
  refine lw_iadd E dL_of_10 (fun z3 hz3 => ?_)
  exact lo_iret E hRt hLk hK hAe hw dL_of_11 rfl ⟨z3, (by omega), rfl, rfl⟩
