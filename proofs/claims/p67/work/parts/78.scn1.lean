set_option maxHeartbeats 4000000 in
set_option maxRecDepth 100000 in
theorem kX6_byteAt (l : Launch) (X : KX) (xt tt : Nat) (tn tp ts tk tv : Int) (T : Nat → Int) (x : Int) (ht : 0 ≤ tn ∧ tn ≤ 500) (hT : ∀ k : Nat, 0 ≤ T k ∧ T k ≤ 255) (hx : i32 x) : CM l X yX6_byteAt wsX6_byteAt ({ frames := 0, cells := 0, slots := 0, locals := 0 }) [.ref xt, .int (iI x)] ([oX6 xt tt tn tp ts tk tv, arB X tt 500 (sB T)]) (fun v9 w9 => ∃ z : Int, ((0 ≤ x ∧ x < tn ∧ z = sB T x.toNat) ∨ (¬ (0 ≤ x ∧ x < tn) ∧ z = -1)) ∧ (-128 ≤ z ∧ z ≤ 127) ∧ v9 = some (.int (iI z)) ∧ w9 = [oX6 xt tt tn tp ts tk tv, arB X tt 500 (sB T)]) 0 0 := by
  refine lo_enter (cc := cX6_byteAt) (maxL := 2) (ret := (some .int)) (lv := [(0, .ref xt), (1, .int (iI x))]) (by decide) rfl rfl (Nat.le_of_ble_eq_true rfl) ?_
  intro p9 e9 s9 m9 bl9 me9 c9 A9 ls hAe E hRt hLk hK hl hw
  have Ex := E.1
  have Eb := E.2.1
  have huRX6 : ∀ w ∈ u_ws RX6 TX6 6, w ∈ wsX6_byteAt := by decide +kernel
  have hf9 : (Cond.fieldLink RX6 9 "LoanSchedule$Tokens" "length" "I").before _ s9 = true := E.2.2.2.2 _ (List.mem_of_getElem? (i := 1) rfl)
  have hf27 : (Cond.fieldLink RX6 27 "LoanSchedule$Tokens" "text" "[B").before _ s9 = true := E.2.2.2.2 _ (List.mem_of_getElem? (i := 2) rfl)
  have hTx := sB_r hT x.toNat
  refine lv_iload_n Ex Eb dX6_byteAt_0 rfl (lv_at hl 1 rfl) ?_
  refine lo_if_lt (tgt := 21) E dX6_byteAt_1 (by decide) (by omega) (fun c1 => ?_) (fun c1 => ?_)
  · skip
    refine lv_iconst (v := iI (-1)) Ex Eb dX6_byteAt_21 rfl ?_
    refine lv_goto (tgt := 31) Ex Eb dX6_byteAt_22 (by decide) ?_
    exact lo_iret E hRt hLk hK hAe hw dX6_byteAt_31 rfl ⟨-1, (by first | exact Or.inl ⟨by omega, by omega, rfl⟩ | exact Or.inr ⟨by omega, rfl⟩), (by omega), rfl, rfl⟩
  · skip
    refine lv_iload_n Ex Eb dX6_byteAt_4 rfl (lv_at hl 1 rfl) ?_
    refine lv_aload_n Ex Eb dX6_byteAt_5 rfl (lv_at hl 0 rfl) ?_
    refine lo_get E hK hw huRX6 1 hf9 rfl 0 rfl rfl (by decide) (v := .int (iI tn)) rfl dX6_byteAt_6 ?_
    refine lo_icmp_ge (tgt := 21) E dX6_byteAt_9 (by decide) (by omega) (by omega) (fun c2 => ?_) (fun c2 => ?_)
    · skip
      refine lv_iconst (v := iI (-1)) Ex Eb dX6_byteAt_21 rfl ?_
      refine lv_goto (tgt := 31) Ex Eb dX6_byteAt_22 (by decide) ?_
      exact lo_iret E hRt hLk hK hAe hw dX6_byteAt_31 rfl ⟨-1, (by first | exact Or.inl ⟨by omega, by omega, rfl⟩ | exact Or.inr ⟨by omega, rfl⟩), (by omega), rfl, rfl⟩
    · skip
      refine lv_iload_n Ex Eb dX6_byteAt_12 rfl (lv_at hl 1 rfl) ?_
      refine lv_aload_n Ex Eb dX6_byteAt_13 rfl (lv_at hl 0 rfl) ?_
      refine lo_get E hK hw huRX6 0 hf27 rfl 0 rfl rfl (by decide) (v := .ref tt) rfl dX6_byteAt_14 ?_
      refine lo_alen (z := 500) E hK hw 1 0 rfl rfl rfl dX6_byteAt_17 ?_
      refine lo_icmp_lt (tgt := 25) E dX6_byteAt_18 (by decide) (by omega) (by omega) (fun c3 => ?_) (fun c3 => ?_)
      · skip
        refine lv_aload_n Ex Eb dX6_byteAt_25 rfl (lv_at hl 0 rfl) ?_
        refine lo_get E hK hw huRX6 0 hf27 rfl 0 rfl rfl (by decide) (v := .ref tt) rfl dX6_byteAt_26 ?_
        refine lv_iload_n Ex Eb dX6_byteAt_29 rfl (lv_at hl 1 rfl) ?_
        refine lo_bald E hK hw 1 rfl (by omega) dX6_byteAt_30 ?_
        exact lo_iret E hRt hLk hK hAe hw dX6_byteAt_31 rfl ⟨sB T x.toNat, (by first | exact Or.inl ⟨by omega, by omega, rfl⟩ | exact Or.inr ⟨by omega, rfl⟩), (by omega), rfl, rfl⟩
      · skip
        refine lv_iconst (v := iI (-1)) Ex Eb dX6_byteAt_21 rfl ?_
        refine lv_goto (tgt := 31) Ex Eb dX6_byteAt_22 (by decide) ?_
        exact lo_iret E hRt hLk hK hAe hw dX6_byteAt_31 rfl ⟨-1, (by first | exact Or.inl ⟨by omega, by omega, rfl⟩ | exact Or.inr ⟨by omega, rfl⟩), (by omega), rfl, rfl⟩
set_option maxHeartbeats 4000000 in
set_option maxRecDepth 100000 in
theorem kX6_isLetter (l : Launch) (X : KX) (x : Int) (hx : i32 x) : CM l X yX6_isLetter wsX6_isLetter ({ frames := 0, cells := 0, slots := 0, locals := 0 }) [.int (iI x)] ([]) (fun v9 w9 => ∃ z : Int, ((z = 1 ∧ 97 ≤ x ∧ x ≤ 122) ∨ (z = 0 ∧ ¬ (97 ≤ x ∧ x ≤ 122))) ∧ v9 = some (.int (iI z)) ∧ w9 = []) 0 0 := by
  refine lo_enter (cc := cX6_isLetter) (maxL := 1) (ret := (some .boolean)) (lv := [(0, .int (iI x))]) (by decide) rfl rfl (Nat.le_of_ble_eq_true rfl) ?_
  intro p9 e9 s9 m9 bl9 me9 c9 A9 ls hAe E hRt hLk hK hl hw
  have Ex := E.1
  have Eb := E.2.1
  refine lv_iload_n Ex Eb dX6_isLetter_0 rfl (lv_at hl 0 rfl) ?_
  refine lv_bipush (v := iI 97) Ex Eb dX6_isLetter_1 rfl ?_
  refine lo_icmp_lt (tgt := 16) E dX6_isLetter_3 (by decide) (by omega) (by omega) (fun c1 => ?_) (fun c1 => ?_)
  · skip
    refine lv_iconst (v := iI 0) Ex Eb dX6_isLetter_16 rfl ?_
    exact lo_zret E hRt hLk hK hAe hw dX6_isLetter_17 rfl rfl ⟨0, (by omega), rfl, rfl⟩
  · skip
    refine lv_iload_n Ex Eb dX6_isLetter_6 rfl (lv_at hl 0 rfl) ?_
    refine lv_bipush (v := iI 122) Ex Eb dX6_isLetter_7 rfl ?_
    refine lo_icmp_gt (tgt := 16) E dX6_isLetter_9 (by decide) (by omega) (by omega) (fun c2 => ?_) (fun c2 => ?_)
    · skip
      refine lv_iconst (v := iI 0) Ex Eb dX6_isLetter_16 rfl ?_
      exact lo_zret E hRt hLk hK hAe hw dX6_isLetter_17 rfl rfl ⟨0, (by omega), rfl, rfl⟩
    · skip
      refine lv_iconst (v := iI 1) Ex Eb dX6_isLetter_12 rfl ?_
      refine lv_goto (tgt := 17) Ex Eb dX6_isLetter_13 (by decide) ?_
      exact lo_zret E hRt hLk hK hAe hw dX6_isLetter_17 rfl rfl ⟨1, (by omega), rfl, rfl⟩
set_option maxHeartbeats 4000000 in
set_option maxRecDepth 100000 in
theorem kX6_isDigit (l : Launch) (X : KX) (x : Int) (hx : i32 x) : CM l X yX6_isDigit wsX6_isDigit ({ frames := 0, cells := 0, slots := 0, locals := 0 }) [.int (iI x)] ([]) (fun v9 w9 => ∃ z : Int, ((z = 1 ∧ 48 ≤ x ∧ x ≤ 57) ∨ (z = 0 ∧ ¬ (48 ≤ x ∧ x ≤ 57))) ∧ v9 = some (.int (iI z)) ∧ w9 = []) 0 0 := by
  refine lo_enter (cc := cX6_isDigit) (maxL := 1) (ret := (some .boolean)) (lv := [(0, .int (iI x))]) (by decide) rfl rfl (Nat.le_of_ble_eq_true rfl) ?_
  intro p9 e9 s9 m9 bl9 me9 c9 A9 ls hAe E hRt hLk hK hl hw
  have Ex := E.1
  have Eb := E.2.1
  refine lv_iload_n Ex Eb dX6_isDigit_0 rfl (lv_at hl 0 rfl) ?_
  refine lv_bipush (v := iI 48) Ex Eb dX6_isDigit_1 rfl ?_
  refine lo_icmp_lt (tgt := 16) E dX6_isDigit_3 (by decide) (by omega) (by omega) (fun c1 => ?_) (fun c1 => ?_)
  · skip
    refine lv_iconst (v := iI 0) Ex Eb dX6_isDigit_16 rfl ?_
    exact lo_zret E hRt hLk hK hAe hw dX6_isDigit_17 rfl rfl ⟨0, (by omega), rfl, rfl⟩
  · skip
    refine lv_iload_n Ex Eb dX6_isDigit_6 rfl (lv_at hl 0 rfl) ?_
    refine lv_bipush (v := iI 57) Ex Eb dX6_isDigit_7 rfl ?_
    refine lo_icmp_gt (tgt := 16) E dX6_isDigit_9 (by decide) (by omega) (by omega) (fun c2 => ?_) (fun c2 => ?_)
    · skip
      refine lv_iconst (v := iI 0) Ex Eb dX6_isDigit_16 rfl ?_
      exact lo_zret E hRt hLk hK hAe hw dX6_isDigit_17 rfl rfl ⟨0, (by omega), rfl, rfl⟩
    · skip
      refine lv_iconst (v := iI 1) Ex Eb dX6_isDigit_12 rfl ?_
      refine lv_goto (tgt := 17) Ex Eb dX6_isDigit_13 (by decide) ?_
      exact lo_zret E hRt hLk hK hAe hw dX6_isDigit_17 rfl rfl ⟨1, (by omega), rfl, rfl⟩
set_option maxHeartbeats 4000000 in
set_option maxRecDepth 100000 in
theorem kX6_rewind (l : Launch) (X : KX) (xt tt : Nat) (tn tp ts tk tv : Int) (T : Nat → Int) (x : Int) (hx : 0 ≤ x ∧ x ≤ 500) : CM l X yX6_rewind wsX6_rewind ({ frames := 1, cells := 0, slots := 0, locals := 60 }) [.ref xt, .int (iI x)] ([oX6 xt tt tn tp ts tk tv, arB X tt 500 (sB T)]) (fun v9 w9 => v9 = none ∧ w9 = [oX6 xt tt x 0 ts tk tv, arB X tt 500 (sB T)]) 0 0 := by
  refine lo_enter (cc := cX6_rewind) (maxL := 2) (ret := none) (lv := [(0, .ref xt), (1, .int (iI x))]) (by decide) rfl rfl (Nat.le_of_ble_eq_true rfl) ?_
  intro p9 e9 s9 m9 bl9 me9 c9 A9 ls hAe E hRt hLk hK hl hw
  have Ex := E.1
  have Eb := E.2.1
  have huRX6 : ∀ w ∈ u_ws RX6 TX6 6, w ∈ wsX6_rewind := by decide +kernel
  have hf27 : (Cond.fieldLink RX6 27 "LoanSchedule$Tokens" "text" "[B").before _ s9 = true := E.2.2.2.2 _ (List.mem_of_getElem? (i := 1) rfl)
  have hl31 : (Cond.methodLink RX6 31 Lib.Math.min.name).before _ s9 = true := E.2.2.2.2 _ (List.mem_of_getElem? (i := 2) rfl)
  have hstmin : (Cond.static Lib.Math.min.name).before _ s9 = true := E.2.2.2.2 _ (List.mem_of_getElem? (i := 3) rfl)
  have hmath : (Cond.initialized "java/lang/Math").before _ s9 = true := E.2.2.2.2 _ (List.mem_of_getElem? (i := 4) rfl)
  have hcdmin : (Cond.code Lib.Math.min.name Lib.Math.min.code 2 (some .int)).before _ s9 = true := E.2.2.2.2 _ (List.mem_of_getElem? (i := 5) rfl)
  have hf9 : (Cond.fieldLink RX6 9 "LoanSchedule$Tokens" "length" "I").before _ s9 = true := E.2.2.2.2 _ (List.mem_of_getElem? (i := 6) rfl)
  have hf15 : (Cond.fieldLink RX6 15 "LoanSchedule$Tokens" "position" "I").before _ s9 = true := E.2.2.2.2 _ (List.mem_of_getElem? (i := 7) rfl)
  refine lv_aload_n Ex Eb dX6_rewind_0 rfl (lv_at hl 0 rfl) ?_
  refine lv_iload_n Ex Eb dX6_rewind_1 rfl (lv_at hl 1 rfl) ?_
  refine lv_aload_n Ex Eb dX6_rewind_2 rfl (lv_at hl 0 rfl) ?_
  refine lo_get E hK hw huRX6 0 hf27 rfl 0 rfl rfl (by decide) (v := .ref tt) rfl dX6_rewind_3 ?_
  refine lo_alen (z := 500) E hK hw 1 0 rfl rfl rfl dX6_rewind_6 ?_
  refine lo_mmin E hl.1 hl31 hstmin hmath hcdmin (Nat.le_of_ble_eq_true rfl) (Nat.le_of_ble_eq_true rfl) (Nat.le_of_ble_eq_true rfl) (Nat.le_of_ble_eq_true rfl) (by omega) (by omega) dX6_rewind_7 ?_
  refine lo_put E hK hw huRX6 tyX6 tyX6_ok nmX6 1 hf9 rfl 0 rfl rfl (by decide) rfl rfl rfl rfl (Nat.le_of_ble_eq_true rfl) (ws' := [oX6 xt tt (min x 500) tp ts tk tv, arB X tt 500 (sB T)]) rfl dX6_rewind_10 (fun H locs hw => ?_)
  refine lv_aload_n Ex Eb dX6_rewind_13 rfl (lv_at hl 0 rfl) ?_
  refine lv_iconst (v := iI 0) Ex Eb dX6_rewind_14 rfl ?_
  refine lo_put E hK hw huRX6 tyX6 tyX6_ok nmX6 2 hf15 rfl 0 rfl rfl (by decide) rfl rfl rfl rfl (Nat.le_of_ble_eq_true rfl) (ws' := [oX6 xt tt (min x 500) 0 ts tk tv, arB X tt 500 (sB T)]) rfl dX6_rewind_15 (fun H locs hw => ?_)
  exact lo_vret E hRt hLk hK hAe hw dX6_rewind_18 rfl ⟨rfl, by rw [show min x 500 = x by omega]⟩
set_option maxHeartbeats 4000000 in
set_option maxRecDepth 100000 in
theorem kX6_readWord (l : Launch) (X : KX) (xt tt : Nat) (tn tp ts tk tv : Int) (T : Nat → Int) (ht : 0 ≤ tn ∧ tn ≤ 500) (hT : ∀ k : Nat, 0 ≤ T k ∧ T k ≤ 255) (hp : 0 ≤ tp ∧ tp ≤ tn) : CM l X yX6_readWord wsX6_readWord ({ frames := 1, cells := 0, slots := 0, locals := 21 }) [.ref xt] ([oX6 xt tt tn tp ts tk tv, arB X tt 500 (sB T)]) (fun v9 w9 => v9 = none ∧ w9 = [oX6 xt tt tn (spE pLe T tn tp) ts 1 tv, arB X tt 500 (sB T)]) 0 0 := by
  refine lo_enter (cc := cX6_readWord) (maxL := 1) (ret := none) (lv := [(0, .ref xt)]) (by decide) rfl rfl (Nat.le_of_ble_eq_true rfl) ?_
  intro p9 e9 s9 m9 bl9 me9 c9 A9 ls hAe E hRt hLk hK hl hw
  have Ex := E.1
  have Eb := E.2.1
  have huRX6 : ∀ w ∈ u_ws RX6 TX6 6, w ∈ wsX6_readWord := by decide +kernel
  have hf21 : (Cond.fieldLink RX6 21 "LoanSchedule$Tokens" "kind" "I").before _ s9 = true := E.2.2.2.2 _ (List.mem_of_getElem? (i := 1) rfl)
  have hf15 : (Cond.fieldLink RX6 15 "LoanSchedule$Tokens" "position" "I").before _ s9 = true := E.2.2.2.2 _ (List.mem_of_getElem? (i := 2) rfl)
  have hf9 : (Cond.fieldLink RX6 9 "LoanSchedule$Tokens" "length" "I").before _ s9 = true := E.2.2.2.2 _ (List.mem_of_getElem? (i := 3) rfl)
  refine lv_aload_n Ex Eb dX6_readWord_0 rfl (lv_at hl 0 rfl) ?_
  refine lv_iconst (v := iI 1) Ex Eb dX6_readWord_1 rfl ?_
  refine lo_put E hK hw huRX6 tyX6 tyX6_ok nmX6 4 hf21 rfl 0 rfl rfl (by decide) rfl rfl rfl rfl (Nat.le_of_ble_eq_true rfl) (ws' := [oX6 xt tt tn tp ts 1 tv, arB X tt 500 (sB T)]) rfl dX6_readWord_2 (fun H locs hw => ?_)
  have lp5 : ∀ (n : Nat) (y : Int), (tn - y).toNat < n → (tp ≤ y ∧ y ≤ tn) → (spE pLe T tn y = spE pLe T tn tp) → ∀ (H : Heap) (locs : List Loc) (ls : Array Slot), lo_Wd X ([oX6 xt tt tn y ts 1 tv, arB X tt 500 (sB T)]) A9 s9.heap H locs → lv_has ls 1 [(0, .ref xt)] → W p9 l e9 ({ frames := 1, cells := 0, slots := 0, locals := 21 } : Room) s9 m9 ([.ref xt] : List Value).toArray bl9 me9 c9 H locs 0 0 (MQ bl9 (lo_Qc X ([oX6 xt tt tn tp ts tk tv, arB X tt 500 (sB T)]) s9.heap.size (fun v9 w9 => v9 = none ∧ w9 = [oX6 xt tt tn (spE pLe T tn tp) ts 1 tv, arB X tt 500 (sB T)])) ([.ref xt] : List Value).toArray s9 0 0 A9) (F0 m9 5 ls []) := by
    intro n
    induction n with
    | zero => intro y hn; exact absurd hn (Nat.not_lt_zero _)
    | succ n ih5 =>
      intro y hn5 iv5_0 iv5_1 H locs ls hw hl
      have hTy := sB_r hT y.toNat
      refine lv_aload_n Ex Eb dX6_readWord_5 rfl (lv_at hl 0 rfl) ?_
      refine lo_get E hK hw huRX6 2 hf15 rfl 0 rfl rfl (by decide) (v := .int (iI y)) rfl dX6_readWord_6 ?_
      refine lv_aload_n Ex Eb dX6_readWord_9 rfl (lv_at hl 0 rfl) ?_
      refine lo_get E hK hw huRX6 1 hf9 rfl 0 rfl rfl (by decide) (v := .int (iI tn)) rfl dX6_readWord_10 ?_
      refine lo_icmp_ge (tgt := 43) E dX6_readWord_13 (by decide) (by omega) (by omega) (fun c1 => ?_) (fun c1 => ?_)
      · skip
        exact lo_vret E hRt hLk hK hAe hw dX6_readWord_43 rfl ⟨rfl, by rw [← iv5_1, spE_e (p := pLe) (T := T) (n := tn) (x := y) (fun h => by have h1 := h.1; have h2 := h.2; change 97 ≤ T y.toNat ∧ T y.toNat ≤ 122 at h2; omega)]⟩
      · skip
        refine lv_aload_n Ex Eb dX6_readWord_16 rfl (lv_at hl 0 rfl) ?_
        refine lv_aload_n Ex Eb dX6_readWord_17 rfl (lv_at hl 0 rfl) ?_
        refine lo_get E hK hw huRX6 2 hf15 rfl 0 rfl rfl (by decide) (v := .int (iI y)) rfl dX6_readWord_18 ?_
        refine lo_callV (q0 := 0) (rest := []) E hK hw (kX6_byteAt l X xt tt tn y ts 1 tv T y (ht) (hT) (by omega)) (cwV 1 E.2.2.2.2 gX6_readWord_X6_byteAt rfl rfl rfl (by decide +kernel) ⟨Nat.le_of_ble_eq_true rfl, Nat.le_of_ble_eq_true rfl⟩) rfl rfl [0, 1] rfl (by decide) hl.1 rfl rfl (Nat.le_of_ble_eq_true rfl) dX6_readWord_21 ⟨Nat.le_of_ble_eq_true rfl, Nat.le_of_ble_eq_true rfl⟩ (fun v w1 H locs hq hw => ?_)
        obtain ⟨z2, q21_0, q21_1, rfl, rfl⟩ := hq
        have hw : lo_Wd X ([oX6 xt tt tn y ts 1 tv, arB X tt 500 (sB T)]) A9 s9.heap H locs := hw
        refine W.eq (g2 := F0 m9 24 ls [.int (iI z2)]) rfl ?_
        refine lo_callS (rest := []) E hK hw (kX6_isLetter l X z2 (by omega)) (cwS 1 E.2.2.2.2 gX6_readWord_X6_isLetter rfl rfl rfl (by decide +kernel) ⟨Nat.le_of_ble_eq_true rfl, Nat.le_of_ble_eq_true rfl⟩) [] rfl (by decide) hl.1 rfl rfl (Nat.le_of_ble_eq_true rfl) dX6_readWord_24 ⟨Nat.le_of_ble_eq_true rfl, Nat.le_of_ble_eq_true rfl⟩ (fun v w1 H locs hq hw => ?_)
        obtain ⟨z3, q24_0, rfl, rfl⟩ := hq
        have hw : lo_Wd X ([oX6 xt tt tn y ts 1 tv, arB X tt 500 (sB T)]) A9 s9.heap H locs := hw
        refine W.eq (g2 := F0 m9 27 ls [.int (iI z3)]) rfl ?_
        refine lo_if_eq (tgt := 43) E dX6_readWord_27 (by decide) (by omega) (fun c4 => ?_) (fun c4 => ?_)
        · skip
          exact lo_vret E hRt hLk hK hAe hw dX6_readWord_43 rfl ⟨rfl, by rw [← iv5_1, spE_e (p := pLe) (T := T) (n := tn) (x := y) (fun h => by have h1 := h.1; have h2 := h.2; change 97 ≤ T y.toNat ∧ T y.toNat ≤ 122 at h2; omega)]⟩
        · skip
          refine lv_aload_n Ex Eb dX6_readWord_30 rfl (lv_at hl 0 rfl) ?_
          refine lv_dup Ex Eb dX6_readWord_31 rfl ?_
          refine lo_get E hK hw huRX6 2 hf15 rfl 0 rfl rfl (by decide) (v := .int (iI y)) rfl dX6_readWord_32 ?_
          refine lv_iconst (v := iI 1) Ex Eb dX6_readWord_35 rfl ?_
          refine lo_iadd E dX6_readWord_36 ?_
          refine lo_put E hK hw huRX6 tyX6 tyX6_ok nmX6 2 hf15 rfl 0 rfl rfl (by decide) rfl rfl rfl rfl (Nat.le_of_ble_eq_true rfl) (ws' := [oX6 xt tt tn (y + 1) ts 1 tv, arB X tt 500 (sB T)]) rfl dX6_readWord_37 (fun H locs hw => ?_)
          refine lv_goto (tgt := 5) Ex Eb dX6_readWord_40 (by decide) ?_
          exact ih5 (y + 1) (by omega) (by omega) (by rw [← iv5_1]; exact (spE_s (by omega) (by show 97 ≤ T y.toNat ∧ T y.toNat ≤ 122; omega)).symm) _ _ _ hw (lv_sub hl [0] rfl)
  exact lp5 _ tp (Nat.lt_succ_self _) (by omega) (rfl) _ _ _ hw (lv_sub hl [0] rfl)
set_option maxHeartbeats 4000000 in
set_option maxRecDepth 100000 in
theorem kX6_readDigits (l : Launch) (X : KX) (xt tt : Nat) (tn tp tk tv : Int) (T : Nat → Int) (ht : 0 ≤ tn ∧ tn ≤ 500) (hT : ∀ k : Nat, 0 ≤ T k ∧ T k ≤ 255) (hp : 0 ≤ tp ∧ tp ≤ tn) : CM l X yX6_readDigits wsX6_readDigits ({ frames := 1, cells := 0, slots := 0, locals := 21 }) [.ref xt] ([oX6 xt tt tn tp tp tk tv, arB X tt 500 (sB T)]) (fun v9 w9 => ∃ nk : Int, ((nk = 4 ∧ 7 < spE pDi T tn tp - tp) ∨ (nk = 2 ∧ spE pDi T tn tp - tp ≤ 7)) ∧ (0 ≤ fgE T tn tp tp 0 ∧ fgE T tn tp tp 0 ≤ 9999999) ∧ v9 = none ∧ w9 = [oX6 xt tt tn (spE pDi T tn tp) tp nk (fgE T tn tp tp 0), arB X tt 500 (sB T)]) 0 0 := by
  refine lo_enter (cc := cX6_readDigits) (maxL := 1) (ret := none) (lv := [(0, .ref xt)]) (by decide) rfl rfl (Nat.le_of_ble_eq_true rfl) ?_
  intro p9 e9 s9 m9 bl9 me9 c9 A9 ls hAe E hRt hLk hK hl hw
  have Ex := E.1
  have Eb := E.2.1
  have huRX6 : ∀ w ∈ u_ws RX6 TX6 6, w ∈ wsX6_readDigits := by decide +kernel
  have hf24 : (Cond.fieldLink RX6 24 "LoanSchedule$Tokens" "value" "I").before _ s9 = true := E.2.2.2.2 _ (List.mem_of_getElem? (i := 1) rfl)
  have hf15 : (Cond.fieldLink RX6 15 "LoanSchedule$Tokens" "position" "I").before _ s9 = true := E.2.2.2.2 _ (List.mem_of_getElem? (i := 2) rfl)
  have hf9 : (Cond.fieldLink RX6 9 "LoanSchedule$Tokens" "length" "I").before _ s9 = true := E.2.2.2.2 _ (List.mem_of_getElem? (i := 3) rfl)
  have hf18 : (Cond.fieldLink RX6 18 "LoanSchedule$Tokens" "start" "I").before _ s9 = true := E.2.2.2.2 _ (List.mem_of_getElem? (i := 4) rfl)
  have hf21 : (Cond.fieldLink RX6 21 "LoanSchedule$Tokens" "kind" "I").before _ s9 = true := E.2.2.2.2 _ (List.mem_of_getElem? (i := 5) rfl)
  refine lv_aload_n Ex Eb dX6_readDigits_0 rfl (lv_at hl 0 rfl) ?_
  refine lv_iconst (v := iI 0) Ex Eb dX6_readDigits_1 rfl ?_
  refine lo_put E hK hw huRX6 tyX6 tyX6_ok nmX6 5 hf24 rfl 0 rfl rfl (by decide) rfl rfl rfl rfl (Nat.le_of_ble_eq_true rfl) (ws' := [oX6 xt tt tn tp tp tk 0, arB X tt 500 (sB T)]) rfl dX6_readDigits_2 (fun H locs hw => ?_)
  have lp5 : ∀ (n : Nat) (y f : Int), (tn - y).toNat < n → (tp ≤ y ∧ y ≤ tn) → (spE pDi T tn y = spE pDi T tn tp) → (fgE T tn tp y f = fgE T tn tp tp 0) → ((y - tp = 0 ∧ f = 0) ∨ (y - tp = 1 ∧ 0 ≤ f ∧ f ≤ 9) ∨ (y - tp = 2 ∧ 0 ≤ f ∧ f ≤ 99) ∨ (y - tp = 3 ∧ 0 ≤ f ∧ f ≤ 999) ∨ (y - tp = 4 ∧ 0 ≤ f ∧ f ≤ 9999) ∨ (y - tp = 5 ∧ 0 ≤ f ∧ f ≤ 99999) ∨ (y - tp = 6 ∧ 0 ≤ f ∧ f ≤ 999999) ∨ (7 ≤ y - tp ∧ 0 ≤ f ∧ f ≤ 9999999)) → ∀ (H : Heap) (locs : List Loc) (ls : Array Slot), lo_Wd X ([oX6 xt tt tn y tp tk f, arB X tt 500 (sB T)]) A9 s9.heap H locs → lv_has ls 1 [(0, .ref xt)] → W p9 l e9 ({ frames := 1, cells := 0, slots := 0, locals := 21 } : Room) s9 m9 ([.ref xt] : List Value).toArray bl9 me9 c9 H locs 0 0 (MQ bl9 (lo_Qc X ([oX6 xt tt tn tp tp tk tv, arB X tt 500 (sB T)]) s9.heap.size (fun v9 w9 => ∃ nk : Int, ((nk = 4 ∧ 7 < spE pDi T tn tp - tp) ∨ (nk = 2 ∧ spE pDi T tn tp - tp ≤ 7)) ∧ (0 ≤ fgE T tn tp tp 0 ∧ fgE T tn tp tp 0 ≤ 9999999) ∧ v9 = none ∧ w9 = [oX6 xt tt tn (spE pDi T tn tp) tp nk (fgE T tn tp tp 0), arB X tt 500 (sB T)])) ([.ref xt] : List Value).toArray s9 0 0 A9) (F0 m9 5 ls []) := by
    intro n
    induction n with
    | zero => intro y f hn; exact absurd hn (Nat.not_lt_zero _)
    | succ n ih5 =>
      intro y f hn5 iv5_0 iv5_1 iv5_2 iv5_3 H locs ls hw hl
      have hTy := sB_r hT y.toNat
      refine lv_aload_n Ex Eb dX6_readDigits_5 rfl (lv_at hl 0 rfl) ?_
      refine lo_get E hK hw huRX6 2 hf15 rfl 0 rfl rfl (by decide) (v := .int (iI y)) rfl dX6_readDigits_6 ?_
      refine lv_aload_n Ex Eb dX6_readDigits_9 rfl (lv_at hl 0 rfl) ?_
      refine lo_get E hK hw huRX6 1 hf9 rfl 0 rfl rfl (by decide) (v := .int (iI tn)) rfl dX6_readDigits_10 ?_
      refine lo_icmp_ge (tgt := 80) E dX6_readDigits_13 (by decide) (by omega) (by omega) (fun c1 => ?_) (fun c1 => ?_)
      · skip
        have hse : spE pDi T tn y = y := spE_e (p := pDi) (T := T) (n := tn) (x := y) (fun h => by have h1 := h.1; have h2 := h.2; change 48 ≤ T y.toNat ∧ T y.toNat ≤ 57 at h2; omega)
        have hfe : fgE T tn tp y f = f := fgE_e (fun h => by have h1 := h.1; have h2 := h.2; change 48 ≤ T y.toNat ∧ T y.toNat ≤ 57 at h2; omega)
        refine lv_aload_n Ex Eb dX6_readDigits_80 rfl (lv_at hl 0 rfl) ?_
        refine lv_aload_n Ex Eb dX6_readDigits_81 rfl (lv_at hl 0 rfl) ?_
        refine lo_get E hK hw huRX6 2 hf15 rfl 0 rfl rfl (by decide) (v := .int (iI y)) rfl dX6_readDigits_82 ?_
        refine lv_aload_n Ex Eb dX6_readDigits_85 rfl (lv_at hl 0 rfl) ?_
        refine lo_get E hK hw huRX6 3 hf18 rfl 0 rfl rfl (by decide) (v := .int (iI tp)) rfl dX6_readDigits_86 ?_
        refine lo_isub E dX6_readDigits_89 ?_
        refine lv_bipush (v := iI 7) Ex Eb dX6_readDigits_90 rfl ?_
        refine lo_icmp_le (tgt := 99) E dX6_readDigits_92 (by decide) (by omega) (by omega) (fun c2 => ?_) (fun c2 => ?_)
        · skip
          refine lv_iconst (v := iI 2) Ex Eb dX6_readDigits_99 rfl ?_
          refine lo_put E hK hw huRX6 tyX6 tyX6_ok nmX6 4 hf21 rfl 0 rfl rfl (by decide) rfl rfl rfl rfl (Nat.le_of_ble_eq_true rfl) (ws' := [oX6 xt tt tn y tp 2 f, arB X tt 500 (sB T)]) rfl dX6_readDigits_100 (fun H locs hw => ?_)
          exact lo_vret E hRt hLk hK hAe hw dX6_readDigits_103 rfl ⟨2, (by omega), (by omega), rfl, by rw [← iv5_1, ← iv5_2, hse, hfe]⟩
        · skip
          refine lv_iconst (v := iI 4) Ex Eb dX6_readDigits_95 rfl ?_
          refine lv_goto (tgt := 100) Ex Eb dX6_readDigits_96 (by decide) ?_
          refine lo_put E hK hw huRX6 tyX6 tyX6_ok nmX6 4 hf21 rfl 0 rfl rfl (by decide) rfl rfl rfl rfl (Nat.le_of_ble_eq_true rfl) (ws' := [oX6 xt tt tn y tp 4 f, arB X tt 500 (sB T)]) rfl dX6_readDigits_100 (fun H locs hw => ?_)
          exact lo_vret E hRt hLk hK hAe hw dX6_readDigits_103 rfl ⟨4, (by omega), (by omega), rfl, by rw [← iv5_1, ← iv5_2, hse, hfe]⟩
      · skip
        refine lv_aload_n Ex Eb dX6_readDigits_16 rfl (lv_at hl 0 rfl) ?_
        refine lv_aload_n Ex Eb dX6_readDigits_17 rfl (lv_at hl 0 rfl) ?_
        refine lo_get E hK hw huRX6 2 hf15 rfl 0 rfl rfl (by decide) (v := .int (iI y)) rfl dX6_readDigits_18 ?_
        refine lo_callV (q0 := 0) (rest := []) E hK hw (kX6_byteAt l X xt tt tn y tp tk f T y (ht) (hT) (by omega)) (cwV 1 E.2.2.2.2 gX6_readDigits_X6_byteAt rfl rfl rfl (by decide +kernel) ⟨Nat.le_of_ble_eq_true rfl, Nat.le_of_ble_eq_true rfl⟩) rfl rfl [0, 1] rfl (by decide) hl.1 rfl rfl (Nat.le_of_ble_eq_true rfl) dX6_readDigits_21 ⟨Nat.le_of_ble_eq_true rfl, Nat.le_of_ble_eq_true rfl⟩ (fun v w1 H locs hq hw => ?_)
        obtain ⟨z3, q21_0, q21_1, rfl, rfl⟩ := hq
        have hw : lo_Wd X ([oX6 xt tt tn y tp tk f, arB X tt 500 (sB T)]) A9 s9.heap H locs := hw
        refine W.eq (g2 := F0 m9 24 ls [.int (iI z3)]) rfl ?_
        refine lo_callS (rest := []) E hK hw (kX6_isDigit l X z3 (by omega)) (cwS 1 E.2.2.2.2 gX6_readDigits_X6_isDigit rfl rfl rfl (by decide +kernel) ⟨Nat.le_of_ble_eq_true rfl, Nat.le_of_ble_eq_true rfl⟩) [] rfl (by decide) hl.1 rfl rfl (Nat.le_of_ble_eq_true rfl) dX6_readDigits_24 ⟨Nat.le_of_ble_eq_true rfl, Nat.le_of_ble_eq_true rfl⟩ (fun v w1 H locs hq hw => ?_)
        obtain ⟨z4, q24_0, rfl, rfl⟩ := hq
        have hw : lo_Wd X ([oX6 xt tt tn y tp tk f, arB X tt 500 (sB T)]) A9 s9.heap H locs := hw
        refine W.eq (g2 := F0 m9 27 ls [.int (iI z4)]) rfl ?_
        refine lo_if_eq (tgt := 80) E dX6_readDigits_27 (by decide) (by omega) (fun c5 => ?_) (fun c5 => ?_)
        · skip
          have hse : spE pDi T tn y = y := spE_e (p := pDi) (T := T) (n := tn) (x := y) (fun h => by have h1 := h.1; have h2 := h.2; change 48 ≤ T y.toNat ∧ T y.toNat ≤ 57 at h2; omega)
          have hfe : fgE T tn tp y f = f := fgE_e (fun h => by have h1 := h.1; have h2 := h.2; change 48 ≤ T y.toNat ∧ T y.toNat ≤ 57 at h2; omega)
          refine lv_aload_n Ex Eb dX6_readDigits_80 rfl (lv_at hl 0 rfl) ?_
          refine lv_aload_n Ex Eb dX6_readDigits_81 rfl (lv_at hl 0 rfl) ?_
          refine lo_get E hK hw huRX6 2 hf15 rfl 0 rfl rfl (by decide) (v := .int (iI y)) rfl dX6_readDigits_82 ?_
          refine lv_aload_n Ex Eb dX6_readDigits_85 rfl (lv_at hl 0 rfl) ?_
          refine lo_get E hK hw huRX6 3 hf18 rfl 0 rfl rfl (by decide) (v := .int (iI tp)) rfl dX6_readDigits_86 ?_
          refine lo_isub E dX6_readDigits_89 ?_
          refine lv_bipush (v := iI 7) Ex Eb dX6_readDigits_90 rfl ?_
          refine lo_icmp_le (tgt := 99) E dX6_readDigits_92 (by decide) (by omega) (by omega) (fun c6 => ?_) (fun c6 => ?_)
          · skip
            refine lv_iconst (v := iI 2) Ex Eb dX6_readDigits_99 rfl ?_
            refine lo_put E hK hw huRX6 tyX6 tyX6_ok nmX6 4 hf21 rfl 0 rfl rfl (by decide) rfl rfl rfl rfl (Nat.le_of_ble_eq_true rfl) (ws' := [oX6 xt tt tn y tp 2 f, arB X tt 500 (sB T)]) rfl dX6_readDigits_100 (fun H locs hw => ?_)
            exact lo_vret E hRt hLk hK hAe hw dX6_readDigits_103 rfl ⟨2, (by omega), (by omega), rfl, by rw [← iv5_1, ← iv5_2, hse, hfe]⟩
          · skip
            refine lv_iconst (v := iI 4) Ex Eb dX6_readDigits_95 rfl ?_
            refine lv_goto (tgt := 100) Ex Eb dX6_readDigits_96 (by decide) ?_
            refine lo_put E hK hw huRX6 tyX6 tyX6_ok nmX6 4 hf21 rfl 0 rfl rfl (by decide) rfl rfl rfl rfl (Nat.le_of_ble_eq_true rfl) (ws' := [oX6 xt tt tn y tp 4 f, arB X tt 500 (sB T)]) rfl dX6_readDigits_100 (fun H locs hw => ?_)
            exact lo_vret E hRt hLk hK hAe hw dX6_readDigits_103 rfl ⟨4, (by omega), (by omega), rfl, by rw [← iv5_1, ← iv5_2, hse, hfe]⟩
        · skip
          refine lv_aload_n Ex Eb dX6_readDigits_30 rfl (lv_at hl 0 rfl) ?_
          refine lo_get E hK hw huRX6 2 hf15 rfl 0 rfl rfl (by decide) (v := .int (iI y)) rfl dX6_readDigits_31 ?_
          refine lv_aload_n Ex Eb dX6_readDigits_34 rfl (lv_at hl 0 rfl) ?_
          refine lo_get E hK hw huRX6 3 hf18 rfl 0 rfl rfl (by decide) (v := .int (iI tp)) rfl dX6_readDigits_35 ?_
          refine lo_isub E dX6_readDigits_38 ?_
          refine lv_bipush (v := iI 7) Ex Eb dX6_readDigits_39 rfl ?_
          refine lo_icmp_ge (tgt := 67) E dX6_readDigits_41 (by decide) (by omega) (by omega) (fun c7 => ?_) (fun c7 => ?_)
          · skip
            refine lv_aload_n Ex Eb dX6_readDigits_67 rfl (lv_at hl 0 rfl) ?_
            refine lv_dup Ex Eb dX6_readDigits_68 rfl ?_
            refine lo_get E hK hw huRX6 2 hf15 rfl 0 rfl rfl (by decide) (v := .int (iI y)) rfl dX6_readDigits_69 ?_
            refine lv_iconst (v := iI 1) Ex Eb dX6_readDigits_72 rfl ?_
            refine lo_iadd E dX6_readDigits_73 ?_
            refine lo_put E hK hw huRX6 tyX6 tyX6_ok nmX6 2 hf15 rfl 0 rfl rfl (by decide) rfl rfl rfl rfl (Nat.le_of_ble_eq_true rfl) (ws' := [oX6 xt tt tn (y + 1) tp tk f, arB X tt 500 (sB T)]) rfl dX6_readDigits_74 (fun H locs hw => ?_)
            refine lv_goto (tgt := 5) Ex Eb dX6_readDigits_77 (by decide) ?_
            exact ih5 (y + 1) f (by omega) (by omega) (by rw [← iv5_1]; exact (spE_s (by omega) (by show 48 ≤ T y.toNat ∧ T y.toNat ≤ 57; omega)).symm) (by rw [← iv5_2]; exact (fgE_s (by omega) (by show 48 ≤ T y.toNat ∧ T y.toNat ≤ 57; omega) (by omega)).symm) (by omega) _ _ _ hw (lv_sub hl [0] rfl)
          · skip
            refine lv_aload_n Ex Eb dX6_readDigits_44 rfl (lv_at hl 0 rfl) ?_
            refine lv_aload_n Ex Eb dX6_readDigits_45 rfl (lv_at hl 0 rfl) ?_
            refine lo_get E hK hw huRX6 5 hf24 rfl 0 rfl rfl (by decide) (v := .int (iI f)) rfl dX6_readDigits_46 ?_
            refine lv_bipush (v := iI 10) Ex Eb dX6_readDigits_49 rfl ?_
            refine lo_imul E dX6_readDigits_51 ?_
            refine lv_aload_n Ex Eb dX6_readDigits_52 rfl (lv_at hl 0 rfl) ?_
            refine lv_aload_n Ex Eb dX6_readDigits_53 rfl (lv_at hl 0 rfl) ?_
            refine lo_get E hK hw huRX6 2 hf15 rfl 0 rfl rfl (by decide) (v := .int (iI y)) rfl dX6_readDigits_54 ?_
            refine lo_callV (q0 := 0) (rest := [.int (iI (f * 10)), .ref xt]) E hK hw (kX6_byteAt l X xt tt tn y tp tk f T y (ht) (hT) (by omega)) (cwV 1 E.2.2.2.2 gX6_readDigits_X6_byteAt rfl rfl rfl (by decide +kernel) ⟨Nat.le_of_ble_eq_true rfl, Nat.le_of_ble_eq_true rfl⟩) rfl rfl [0, 1] rfl (by decide) hl.1 rfl rfl (Nat.le_of_ble_eq_true rfl) dX6_readDigits_57 ⟨Nat.le_of_ble_eq_true rfl, Nat.le_of_ble_eq_true rfl⟩ (fun v w1 H locs hq hw => ?_)
            obtain ⟨z8, q57_0, q57_1, rfl, rfl⟩ := hq
            have hw : lo_Wd X ([oX6 xt tt tn y tp tk f, arB X tt 500 (sB T)]) A9 s9.heap H locs := hw
            refine W.eq (g2 := F0 m9 60 ls [.int (iI z8), .int (iI (f * 10)), .ref xt]) rfl ?_
            refine lo_iadd E dX6_readDigits_60 ?_
            refine lv_bipush (v := iI 48) Ex Eb dX6_readDigits_61 rfl ?_
            refine lo_isub E dX6_readDigits_63 ?_
            refine lo_put E hK hw huRX6 tyX6 tyX6_ok nmX6 5 hf24 rfl 0 rfl rfl (by decide) rfl rfl rfl rfl (Nat.le_of_ble_eq_true rfl) (ws' := [oX6 xt tt tn y tp tk (((f * 10) + z8) - 48), arB X tt 500 (sB T)]) rfl dX6_readDigits_64 (fun H locs hw => ?_)
            refine lv_aload_n Ex Eb dX6_readDigits_67 rfl (lv_at hl 0 rfl) ?_
            refine lv_dup Ex Eb dX6_readDigits_68 rfl ?_
            refine lo_get E hK hw huRX6 2 hf15 rfl 0 rfl rfl (by decide) (v := .int (iI y)) rfl dX6_readDigits_69 ?_
            refine lv_iconst (v := iI 1) Ex Eb dX6_readDigits_72 rfl ?_
            refine lo_iadd E dX6_readDigits_73 ?_
            refine lo_put E hK hw huRX6 tyX6 tyX6_ok nmX6 2 hf15 rfl 0 rfl rfl (by decide) rfl rfl rfl rfl (Nat.le_of_ble_eq_true rfl) (ws' := [oX6 xt tt tn (y + 1) tp tk (((f * 10) + z8) - 48), arB X tt 500 (sB T)]) rfl dX6_readDigits_74 (fun H locs hw => ?_)
            refine lv_goto (tgt := 5) Ex Eb dX6_readDigits_77 (by decide) ?_
            exact ih5 (y + 1) (((f * 10) + z8) - 48) (by omega) (by omega) (by rw [← iv5_1]; exact (spE_s (by omega) (by show 48 ≤ T y.toNat ∧ T y.toNat ≤ 57; omega)).symm) (by rw [← iv5_2]; exact (fgE_s (by omega) (by show 48 ≤ T y.toNat ∧ T y.toNat ≤ 57; omega) (by omega)).symm) (by omega) _ _ _ hw (lv_sub hl [0] rfl)
  exact lp5 _ tp 0 (Nat.lt_succ_self _) (by omega) (rfl) (rfl) (by omega) _ _ _ hw (lv_sub hl [0] rfl)
set_option maxHeartbeats 4000000 in
set_option maxRecDepth 100000 in
theorem kX6_isSign (l : Launch) (X : KX) (xt tt : Nat) (tn tp ts tk tv : Int) (T : Nat → Int) (x : Int) (ht : 0 ≤ tn ∧ tn ≤ 500) (hT : ∀ k : Nat, 0 ≤ T k ∧ T k ≤ 255) (hs : 0 ≤ ts ∧ ts ≤ tn) (hx : 0 ≤ x ∧ x ≤ 127) (hk : 0 ≤ tk ∧ tk ≤ 4) : CM l X yX6_isSign wsX6_isSign ({ frames := 1, cells := 0, slots := 0, locals := 21 }) [.ref xt, .int (iI x)] ([oX6 xt tt tn tp ts tk tv, arB X tt 500 (sB T)]) (fun v9 w9 => ∃ z : Int, ((z = 1 ∧ tk = 3 ∧ ts < tn ∧ T ts.toNat = x) ∨ (z = 0 ∧ ¬ (tk = 3 ∧ ts < tn ∧ T ts.toNat = x))) ∧ v9 = some (.int (iI z)) ∧ w9 = [oX6 xt tt tn tp ts tk tv, arB X tt 500 (sB T)]) 0 0 := by
  refine lo_enter (cc := cX6_isSign) (maxL := 2) (ret := (some .boolean)) (lv := [(0, .ref xt), (1, .int (iI x))]) (by decide) rfl rfl (Nat.le_of_ble_eq_true rfl) ?_
  intro p9 e9 s9 m9 bl9 me9 c9 A9 ls hAe E hRt hLk hK hl hw
  have Ex := E.1
  have Eb := E.2.1
  have huRX6 : ∀ w ∈ u_ws RX6 TX6 6, w ∈ wsX6_isSign := by decide +kernel
  have hf21 : (Cond.fieldLink RX6 21 "LoanSchedule$Tokens" "kind" "I").before _ s9 = true := E.2.2.2.2 _ (List.mem_of_getElem? (i := 1) rfl)
  have hf18 : (Cond.fieldLink RX6 18 "LoanSchedule$Tokens" "start" "I").before _ s9 = true := E.2.2.2.2 _ (List.mem_of_getElem? (i := 2) rfl)
  have hTs := sB_r hT ts.toNat
  refine lv_aload_n Ex Eb dX6_isSign_0 rfl (lv_at hl 0 rfl) ?_
  refine lo_get E hK hw huRX6 4 hf21 rfl 0 rfl rfl (by decide) (v := .int (iI tk)) rfl dX6_isSign_1 ?_
  refine lv_iconst (v := iI 3) Ex Eb dX6_isSign_4 rfl ?_
  refine lo_icmp_ne (tgt := 24) E dX6_isSign_5 (by decide) (by omega) (by omega) (fun c1 => ?_) (fun c1 => ?_)
  · skip
    refine lv_iconst (v := iI 0) Ex Eb dX6_isSign_24 rfl ?_
    exact lo_zret E hRt hLk hK hAe hw dX6_isSign_25 rfl rfl ⟨0, (by omega), rfl, rfl⟩
  · skip
    refine lv_aload_n Ex Eb dX6_isSign_8 rfl (lv_at hl 0 rfl) ?_
    refine lv_aload_n Ex Eb dX6_isSign_9 rfl (lv_at hl 0 rfl) ?_
    refine lo_get E hK hw huRX6 3 hf18 rfl 0 rfl rfl (by decide) (v := .int (iI ts)) rfl dX6_isSign_10 ?_
    refine lo_callV (q0 := 0) (rest := []) E hK hw (kX6_byteAt l X xt tt tn tp ts tk tv T ts (ht) (hT) (by omega)) (cwV 1 E.2.2.2.2 gX6_isSign_X6_byteAt rfl rfl rfl (by decide +kernel) ⟨Nat.le_of_ble_eq_true rfl, Nat.le_of_ble_eq_true rfl⟩) rfl rfl [0, 1] rfl (by decide) hl.1 rfl rfl (Nat.le_of_ble_eq_true rfl) dX6_isSign_13 ⟨Nat.le_of_ble_eq_true rfl, Nat.le_of_ble_eq_true rfl⟩ (fun v w1 H locs hq hw => ?_)
    obtain ⟨z2, q13_0, q13_1, rfl, rfl⟩ := hq
    have hw : lo_Wd X ([oX6 xt tt tn tp ts tk tv, arB X tt 500 (sB T)]) A9 s9.heap H locs := hw
    refine W.eq (g2 := F0 m9 16 ls [.int (iI z2)]) rfl ?_
    refine lv_iload_n Ex Eb dX6_isSign_16 rfl (lv_at hl 1 rfl) ?_
    refine lo_icmp_ne (tgt := 24) E dX6_isSign_17 (by decide) (by omega) (by omega) (fun c3 => ?_) (fun c3 => ?_)
    · skip
      refine lv_iconst (v := iI 0) Ex Eb dX6_isSign_24 rfl ?_
      exact lo_zret E hRt hLk hK hAe hw dX6_isSign_25 rfl rfl ⟨0, (by omega), rfl, rfl⟩
    · skip
      refine lv_iconst (v := iI 1) Ex Eb dX6_isSign_20 rfl ?_
      refine lv_goto (tgt := 25) Ex Eb dX6_isSign_21 (by decide) ?_
      exact lo_zret E hRt hLk hK hAe hw dX6_isSign_25 rfl rfl ⟨1, (by omega), rfl, rfl⟩
set_option maxHeartbeats 4000000 in
set_option maxRecDepth 100000 in
theorem kX6_advance (l : Launch) (X : KX) (xt tt : Nat) (tn tp ts tk tv : Int) (T : Nat → Int) (ht : 0 ≤ tn ∧ tn ≤ 500) (hT : ∀ k : Nat, 0 ≤ T k ∧ T k ≤ 255) (hp : 0 ≤ tp ∧ tp ≤ tn) (hv : 0 ≤ tv ∧ tv ≤ 9999999) : CM l X yX6_advance wsX6_advance ({ frames := 2, cells := 0, slots := 0, locals := 41 }) [.ref xt] ([oX6 xt tt tn tp ts tk tv, arB X tt 500 (sB T)]) (fun v9 w9 => ∃ na : Int, ∃ nk : Int, ∃ ng : Int, (SCK T tn (spE pSp T tn tp) tv na nk ng) ∧ ((tp ≤ spE pSp T tn tp ∧ spE pSp T tn tp ≤ na ∧ na ≤ tn) ∧ 0 ≤ ng ∧ ng ≤ 9999999) ∧ v9 = none ∧ w9 = [oX6 xt tt tn na (spE pSp T tn tp) nk ng, arB X tt 500 (sB T)]) 0 0 := by
  refine lo_enter (cc := cX6_advance) (maxL := 2) (ret := none) (lv := [(0, .ref xt)]) (by decide) rfl rfl (Nat.le_of_ble_eq_true rfl) ?_
  intro p9 e9 s9 m9 bl9 me9 c9 A9 ls hAe E hRt hLk hK hl hw
  have Ex := E.1
  have Eb := E.2.1
  have huRX6 : ∀ w ∈ u_ws RX6 TX6 6, w ∈ wsX6_advance := by decide +kernel
  have hf15 : (Cond.fieldLink RX6 15 "LoanSchedule$Tokens" "position" "I").before _ s9 = true := E.2.2.2.2 _ (List.mem_of_getElem? (i := 1) rfl)
  have hf9 : (Cond.fieldLink RX6 9 "LoanSchedule$Tokens" "length" "I").before _ s9 = true := E.2.2.2.2 _ (List.mem_of_getElem? (i := 2) rfl)
  have hf18 : (Cond.fieldLink RX6 18 "LoanSchedule$Tokens" "start" "I").before _ s9 = true := E.2.2.2.2 _ (List.mem_of_getElem? (i := 3) rfl)
  have hf21 : (Cond.fieldLink RX6 21 "LoanSchedule$Tokens" "kind" "I").before _ s9 = true := E.2.2.2.2 _ (List.mem_of_getElem? (i := 4) rfl)
  have lp0 : ∀ (n : Nat) (x : Int), (tn - x).toNat < n → (tp ≤ x ∧ x ≤ tn) → (spE pSp T tn x = spE pSp T tn tp) → ∀ (H : Heap) (locs : List Loc) (ls : Array Slot), lo_Wd X ([oX6 xt tt tn x ts tk tv, arB X tt 500 (sB T)]) A9 s9.heap H locs → lv_has ls 2 [(0, .ref xt)] → W p9 l e9 ({ frames := 2, cells := 0, slots := 0, locals := 41 } : Room) s9 m9 ([.ref xt] : List Value).toArray bl9 me9 c9 H locs 0 0 (MQ bl9 (lo_Qc X ([oX6 xt tt tn tp ts tk tv, arB X tt 500 (sB T)]) s9.heap.size (fun v9 w9 => ∃ na : Int, ∃ nk : Int, ∃ ng : Int, (SCK T tn (spE pSp T tn tp) tv na nk ng) ∧ ((tp ≤ spE pSp T tn tp ∧ spE pSp T tn tp ≤ na ∧ na ≤ tn) ∧ 0 ≤ ng ∧ ng ≤ 9999999) ∧ v9 = none ∧ w9 = [oX6 xt tt tn na (spE pSp T tn tp) nk ng, arB X tt 500 (sB T)])) ([.ref xt] : List Value).toArray s9 0 0 A9) (F0 m9 0 ls []) := by
    intro n
    induction n with
    | zero => intro x hn; exact absurd hn (Nat.not_lt_zero _)
    | succ n ih0 =>
      intro x hn0 iv0_0 iv0_1 H locs ls hw hl
      have hTx := sB_r hT x.toNat
      refine lv_aload_n Ex Eb dX6_advance_0 rfl (lv_at hl 0 rfl) ?_
      refine lo_get E hK hw huRX6 2 hf15 rfl 0 rfl rfl (by decide) (v := .int (iI x)) rfl dX6_advance_1 ?_
      refine lv_aload_n Ex Eb dX6_advance_4 rfl (lv_at hl 0 rfl) ?_
      refine lo_get E hK hw huRX6 1 hf9 rfl 0 rfl rfl (by decide) (v := .int (iI tn)) rfl dX6_advance_5 ?_
      refine lo_icmp_ge (tgt := 50) E dX6_advance_8 (by decide) (by omega) (by omega) (fun c1 => ?_) (fun c1 => ?_)
      · skip
        have hbe : spE pSp T tn tp = x := by rw [← iv0_1, spE_e (p := pSp) (T := T) (n := tn) (x := x) (fun h => by have h1 := h.1; have h2 := h.2; change T x.toNat = 32 ∨ T x.toNat = 10 at h2; omega)]
        have hrL := spE_r pLe (T := T) (n := tn) (x := x) (by omega)
        have hrD := spE_r pDi (T := T) (n := tn) (x := x) (by omega)
        refine lv_aload_n Ex Eb dX6_advance_50 rfl (lv_at hl 0 rfl) ?_
        refine lv_aload_n Ex Eb dX6_advance_51 rfl (lv_at hl 0 rfl) ?_
        refine lo_get E hK hw huRX6 2 hf15 rfl 0 rfl rfl (by decide) (v := .int (iI x)) rfl dX6_advance_52 ?_
        refine lo_put E hK hw huRX6 tyX6 tyX6_ok nmX6 3 hf18 rfl 0 rfl rfl (by decide) rfl rfl rfl rfl (Nat.le_of_ble_eq_true rfl) (ws' := [oX6 xt tt tn x x tk tv, arB X tt 500 (sB T)]) rfl dX6_advance_55 (fun H locs hw => ?_)
        refine lv_aload_n Ex Eb dX6_advance_58 rfl (lv_at hl 0 rfl) ?_
        refine lv_aload_n Ex Eb dX6_advance_59 rfl (lv_at hl 0 rfl) ?_
        refine lo_get E hK hw huRX6 3 hf18 rfl 0 rfl rfl (by decide) (v := .int (iI x)) rfl dX6_advance_60 ?_
        refine lo_callV (q0 := 0) (rest := []) E hK hw (kX6_byteAt l X xt tt tn x x tk tv T x (ht) (hT) (by omega)) (cwV 1 E.2.2.2.2 gX6_advance_X6_byteAt rfl rfl rfl (by decide +kernel) ⟨Nat.le_of_ble_eq_true rfl, Nat.le_of_ble_eq_true rfl⟩) rfl rfl [0, 1] rfl (by decide) hl.1 rfl rfl (Nat.le_of_ble_eq_true rfl) dX6_advance_63 ⟨Nat.le_of_ble_eq_true rfl, Nat.le_of_ble_eq_true rfl⟩ (fun v w1 H locs hq hw => ?_)
        obtain ⟨z2, q63_0, q63_1, rfl, rfl⟩ := hq
        have hw : lo_Wd X ([oX6 xt tt tn x x tk tv, arB X tt 500 (sB T)]) A9 s9.heap H locs := hw
        refine W.eq (g2 := F0 m9 66 ls [.int (iI z2)]) rfl ?_
        refine lv_istore_n (lv' := [(1, .int (iI z2)), (0, .ref xt)]) Ex Eb dX6_advance_66 rfl hl (by decide) rfl (fun ls hl => ?_)
        refine lv_aload_n Ex Eb dX6_advance_67 rfl (lv_at hl 1 rfl) ?_
        refine lo_get E hK hw huRX6 3 hf18 rfl 0 rfl rfl (by decide) (v := .int (iI x)) rfl dX6_advance_68 ?_
        refine lv_aload_n Ex Eb dX6_advance_71 rfl (lv_at hl 1 rfl) ?_
        refine lo_get E hK hw huRX6 1 hf9 rfl 0 rfl rfl (by decide) (v := .int (iI tn)) rfl dX6_advance_72 ?_
        refine lo_icmp_lt (tgt := 86) E dX6_advance_75 (by decide) (by omega) (by omega) (fun c3 => ?_) (fun c3 => ?_)
        · skip
          refine lv_iload_n Ex Eb dX6_advance_86 rfl (lv_at hl 0 rfl) ?_
          refine lo_callS (rest := []) E hK hw (kX6_isLetter l X z2 (by omega)) (cwS 1 E.2.2.2.2 gX6_advance_X6_isLetter rfl rfl rfl (by decide +kernel) ⟨Nat.le_of_ble_eq_true rfl, Nat.le_of_ble_eq_true rfl⟩) [] rfl (by decide) hl.1 rfl rfl (Nat.le_of_ble_eq_true rfl) dX6_advance_87 ⟨Nat.le_of_ble_eq_true rfl, Nat.le_of_ble_eq_true rfl⟩ (fun v w1 H locs hq hw => ?_)
          obtain ⟨z4, q87_0, rfl, rfl⟩ := hq
          have hw : lo_Wd X ([oX6 xt tt tn x x tk tv, arB X tt 500 (sB T)]) A9 s9.heap H locs := hw
          refine W.eq (g2 := F0 m9 90 ls [.int (iI z4)]) rfl ?_
          refine lo_if_eq (tgt := 100) E dX6_advance_90 (by decide) (by omega) (fun c5 => ?_) (fun c5 => ?_)
          · skip
            refine lv_iload_n Ex Eb dX6_advance_100 rfl (lv_at hl 0 rfl) ?_
            refine lo_callS (rest := []) E hK hw (kX6_isDigit l X z2 (by omega)) (cwS 1 E.2.2.2.2 gX6_advance_X6_isDigit rfl rfl rfl (by decide +kernel) ⟨Nat.le_of_ble_eq_true rfl, Nat.le_of_ble_eq_true rfl⟩) [] rfl (by decide) hl.1 rfl rfl (Nat.le_of_ble_eq_true rfl) dX6_advance_101 ⟨Nat.le_of_ble_eq_true rfl, Nat.le_of_ble_eq_true rfl⟩ (fun v w1 H locs hq hw => ?_)
            obtain ⟨z6, q101_0, rfl, rfl⟩ := hq
            have hw : lo_Wd X ([oX6 xt tt tn x x tk tv, arB X tt 500 (sB T)]) A9 s9.heap H locs := hw
            refine W.eq (g2 := F0 m9 104 ls [.int (iI z6)]) rfl ?_
            refine lo_if_eq (tgt := 114) E dX6_advance_104 (by decide) (by omega) (fun c7 => ?_) (fun c7 => ?_)
            · skip
              refine lv_aload_n Ex Eb dX6_advance_114 rfl (lv_at hl 1 rfl) ?_
              refine lv_iload_n Ex Eb dX6_advance_115 rfl (lv_at hl 0 rfl) ?_
              refine lv_bipush (v := iI 40) Ex Eb dX6_advance_116 rfl ?_
              refine lo_icmp_eq (tgt := 133) E dX6_advance_118 (by decide) (by omega) (by omega) (fun c8 => ?_) (fun c8 => ?_)
              · skip
                refine lv_iconst (v := iI 3) Ex Eb dX6_advance_133 rfl ?_
                refine lv_goto (tgt := 138) Ex Eb dX6_advance_134 (by decide) ?_
                refine lo_put E hK hw huRX6 tyX6 tyX6_ok nmX6 4 hf21 rfl 0 rfl rfl (by decide) rfl rfl rfl rfl (Nat.le_of_ble_eq_true rfl) (ws' := [oX6 xt tt tn x x 3 tv, arB X tt 500 (sB T)]) rfl dX6_advance_138 (fun H locs hw => ?_)
                refine lv_aload_n Ex Eb dX6_advance_141 rfl (lv_at hl 1 rfl) ?_
                refine lv_dup Ex Eb dX6_advance_142 rfl ?_
                refine lo_get E hK hw huRX6 2 hf15 rfl 0 rfl rfl (by decide) (v := .int (iI x)) rfl dX6_advance_143 ?_
                refine lv_iconst (v := iI 1) Ex Eb dX6_advance_146 rfl ?_
                refine lo_iadd E dX6_advance_147 ?_
                refine lo_put E hK hw huRX6 tyX6 tyX6_ok nmX6 2 hf15 rfl 0 rfl rfl (by decide) rfl rfl rfl rfl (Nat.le_of_ble_eq_true rfl) (ws' := [oX6 xt tt tn (x + 1) x 3 tv, arB X tt 500 (sB T)]) rfl dX6_advance_148 (fun H locs hw => ?_)
                exact lo_vret E hRt hLk hK hAe hw dX6_advance_151 rfl ⟨x + 1, 3, tv, (by rw [hbe]; first | (exfalso; omega) | exact Or.inl ⟨by omega, by omega, by omega, by omega⟩ | exact Or.inr (Or.inl ⟨by omega, (by show 97 ≤ T x.toNat ∧ T x.toNat ≤ 122; omega), by omega, by omega, by omega⟩) | exact Or.inr (Or.inr (Or.inl ⟨by omega, (by show 48 ≤ T x.toNat ∧ T x.toNat ≤ 57; omega), by omega, by omega, by omega⟩)) | exact Or.inr (Or.inr (Or.inr ⟨by omega, (by show ¬ (97 ≤ T x.toNat ∧ T x.toNat ≤ 122); omega), (by show ¬ (48 ≤ T x.toNat ∧ T x.toNat ≤ 57); omega), by omega, by omega, by omega⟩))), (by omega), rfl, by rw [hbe]⟩
              · skip
                refine lv_iload_n Ex Eb dX6_advance_121 rfl (lv_at hl 0 rfl) ?_
                refine lv_bipush (v := iI 41) Ex Eb dX6_advance_122 rfl ?_
                refine lo_icmp_eq (tgt := 133) E dX6_advance_124 (by decide) (by omega) (by omega) (fun c9 => ?_) (fun c9 => ?_)
                · skip
                  refine lv_iconst (v := iI 3) Ex Eb dX6_advance_133 rfl ?_
                  refine lv_goto (tgt := 138) Ex Eb dX6_advance_134 (by decide) ?_
                  refine lo_put E hK hw huRX6 tyX6 tyX6_ok nmX6 4 hf21 rfl 0 rfl rfl (by decide) rfl rfl rfl rfl (Nat.le_of_ble_eq_true rfl) (ws' := [oX6 xt tt tn x x 3 tv, arB X tt 500 (sB T)]) rfl dX6_advance_138 (fun H locs hw => ?_)
                  refine lv_aload_n Ex Eb dX6_advance_141 rfl (lv_at hl 1 rfl) ?_
                  refine lv_dup Ex Eb dX6_advance_142 rfl ?_
                  refine lo_get E hK hw huRX6 2 hf15 rfl 0 rfl rfl (by decide) (v := .int (iI x)) rfl dX6_advance_143 ?_
                  refine lv_iconst (v := iI 1) Ex Eb dX6_advance_146 rfl ?_
                  refine lo_iadd E dX6_advance_147 ?_
                  refine lo_put E hK hw huRX6 tyX6 tyX6_ok nmX6 2 hf15 rfl 0 rfl rfl (by decide) rfl rfl rfl rfl (Nat.le_of_ble_eq_true rfl) (ws' := [oX6 xt tt tn (x + 1) x 3 tv, arB X tt 500 (sB T)]) rfl dX6_advance_148 (fun H locs hw => ?_)
                  exact lo_vret E hRt hLk hK hAe hw dX6_advance_151 rfl ⟨x + 1, 3, tv, (by rw [hbe]; first | (exfalso; omega) | exact Or.inl ⟨by omega, by omega, by omega, by omega⟩ | exact Or.inr (Or.inl ⟨by omega, (by show 97 ≤ T x.toNat ∧ T x.toNat ≤ 122; omega), by omega, by omega, by omega⟩) | exact Or.inr (Or.inr (Or.inl ⟨by omega, (by show 48 ≤ T x.toNat ∧ T x.toNat ≤ 57; omega), by omega, by omega, by omega⟩)) | exact Or.inr (Or.inr (Or.inr ⟨by omega, (by show ¬ (97 ≤ T x.toNat ∧ T x.toNat ≤ 122); omega), (by show ¬ (48 ≤ T x.toNat ∧ T x.toNat ≤ 57); omega), by omega, by omega, by omega⟩))), (by omega), rfl, by rw [hbe]⟩
                · skip
                  refine lv_iload_n Ex Eb dX6_advance_127 rfl (lv_at hl 0 rfl) ?_
                  refine lv_bipush (v := iI 59) Ex Eb dX6_advance_128 rfl ?_
                  refine lo_icmp_ne (tgt := 137) E dX6_advance_130 (by decide) (by omega) (by omega) (fun c10 => ?_) (fun c10 => ?_)
                  · skip
                    refine lv_iconst (v := iI 4) Ex Eb dX6_advance_137 rfl ?_
                    refine lo_put E hK hw huRX6 tyX6 tyX6_ok nmX6 4 hf21 rfl 0 rfl rfl (by decide) rfl rfl rfl rfl (Nat.le_of_ble_eq_true rfl) (ws' := [oX6 xt tt tn x x 4 tv, arB X tt 500 (sB T)]) rfl dX6_advance_138 (fun H locs hw => ?_)
                    refine lv_aload_n Ex Eb dX6_advance_141 rfl (lv_at hl 1 rfl) ?_
                    refine lv_dup Ex Eb dX6_advance_142 rfl ?_
                    refine lo_get E hK hw huRX6 2 hf15 rfl 0 rfl rfl (by decide) (v := .int (iI x)) rfl dX6_advance_143 ?_
                    refine lv_iconst (v := iI 1) Ex Eb dX6_advance_146 rfl ?_
                    refine lo_iadd E dX6_advance_147 ?_
                    refine lo_put E hK hw huRX6 tyX6 tyX6_ok nmX6 2 hf15 rfl 0 rfl rfl (by decide) rfl rfl rfl rfl (Nat.le_of_ble_eq_true rfl) (ws' := [oX6 xt tt tn (x + 1) x 4 tv, arB X tt 500 (sB T)]) rfl dX6_advance_148 (fun H locs hw => ?_)
                    exact lo_vret E hRt hLk hK hAe hw dX6_advance_151 rfl ⟨x + 1, 4, tv, (by rw [hbe]; first | (exfalso; omega) | exact Or.inl ⟨by omega, by omega, by omega, by omega⟩ | exact Or.inr (Or.inl ⟨by omega, (by show 97 ≤ T x.toNat ∧ T x.toNat ≤ 122; omega), by omega, by omega, by omega⟩) | exact Or.inr (Or.inr (Or.inl ⟨by omega, (by show 48 ≤ T x.toNat ∧ T x.toNat ≤ 57; omega), by omega, by omega, by omega⟩)) | exact Or.inr (Or.inr (Or.inr ⟨by omega, (by show ¬ (97 ≤ T x.toNat ∧ T x.toNat ≤ 122); omega), (by show ¬ (48 ≤ T x.toNat ∧ T x.toNat ≤ 57); omega), by omega, by omega, by omega⟩))), (by omega), rfl, by rw [hbe]⟩
                  · skip
                    refine lv_iconst (v := iI 3) Ex Eb dX6_advance_133 rfl ?_
                    refine lv_goto (tgt := 138) Ex Eb dX6_advance_134 (by decide) ?_
                    refine lo_put E hK hw huRX6 tyX6 tyX6_ok nmX6 4 hf21 rfl 0 rfl rfl (by decide) rfl rfl rfl rfl (Nat.le_of_ble_eq_true rfl) (ws' := [oX6 xt tt tn x x 3 tv, arB X tt 500 (sB T)]) rfl dX6_advance_138 (fun H locs hw => ?_)
                    refine lv_aload_n Ex Eb dX6_advance_141 rfl (lv_at hl 1 rfl) ?_
                    refine lv_dup Ex Eb dX6_advance_142 rfl ?_
                    refine lo_get E hK hw huRX6 2 hf15 rfl 0 rfl rfl (by decide) (v := .int (iI x)) rfl dX6_advance_143 ?_
                    refine lv_iconst (v := iI 1) Ex Eb dX6_advance_146 rfl ?_
                    refine lo_iadd E dX6_advance_147 ?_
                    refine lo_put E hK hw huRX6 tyX6 tyX6_ok nmX6 2 hf15 rfl 0 rfl rfl (by decide) rfl rfl rfl rfl (Nat.le_of_ble_eq_true rfl) (ws' := [oX6 xt tt tn (x + 1) x 3 tv, arB X tt 500 (sB T)]) rfl dX6_advance_148 (fun H locs hw => ?_)
                    exact lo_vret E hRt hLk hK hAe hw dX6_advance_151 rfl ⟨x + 1, 3, tv, (by rw [hbe]; first | (exfalso; omega) | exact Or.inl ⟨by omega, by omega, by omega, by omega⟩ | exact Or.inr (Or.inl ⟨by omega, (by show 97 ≤ T x.toNat ∧ T x.toNat ≤ 122; omega), by omega, by omega, by omega⟩) | exact Or.inr (Or.inr (Or.inl ⟨by omega, (by show 48 ≤ T x.toNat ∧ T x.toNat ≤ 57; omega), by omega, by omega, by omega⟩)) | exact Or.inr (Or.inr (Or.inr ⟨by omega, (by show ¬ (97 ≤ T x.toNat ∧ T x.toNat ≤ 122); omega), (by show ¬ (48 ≤ T x.toNat ∧ T x.toNat ≤ 57); omega), by omega, by omega, by omega⟩))), (by omega), rfl, by rw [hbe]⟩
            · skip
              refine lv_aload_n Ex Eb dX6_advance_107 rfl (lv_at hl 1 rfl) ?_
              refine lo_callV (q0 := 0) (rest := []) E hK hw (kX6_readDigits l X xt tt tn x tk tv T (ht) (hT) (by omega)) (cwV 0 E.2.2.2.2 gX6_advance_X6_readDigits rfl rfl rfl (by decide +kernel) ⟨Nat.le_of_ble_eq_true rfl, Nat.le_of_ble_eq_true rfl⟩) rfl rfl [0, 1] rfl (by decide) hl.1 rfl rfl (Nat.le_of_ble_eq_true rfl) dX6_advance_108 ⟨Nat.le_of_ble_eq_true rfl, Nat.le_of_ble_eq_true rfl⟩ (fun v w1 H locs hq hw => ?_)
              obtain ⟨nk11, q108_0, q108_1, rfl, rfl⟩ := hq
              have hw : lo_Wd X ([oX6 xt tt tn (spE pDi T tn x) x nk11 (fgE T tn x x 0), arB X tt 500 (sB T)]) A9 s9.heap H locs := hw
              refine W.eq (g2 := F0 m9 111 ls []) rfl ?_
              refine lv_goto (tgt := 151) Ex Eb dX6_advance_111 (by decide) ?_
              exact lo_vret E hRt hLk hK hAe hw dX6_advance_151 rfl ⟨spE pDi T tn x, nk11, fgE T tn x x 0, (by rw [hbe]; first | (exfalso; omega) | exact Or.inl ⟨by omega, by omega, by omega, by omega⟩ | exact Or.inr (Or.inl ⟨by omega, (by show 97 ≤ T x.toNat ∧ T x.toNat ≤ 122; omega), by omega, by omega, by omega⟩) | exact Or.inr (Or.inr (Or.inl ⟨by omega, (by show 48 ≤ T x.toNat ∧ T x.toNat ≤ 57; omega), by omega, by omega, by omega⟩)) | exact Or.inr (Or.inr (Or.inr ⟨by omega, (by show ¬ (97 ≤ T x.toNat ∧ T x.toNat ≤ 122); omega), (by show ¬ (48 ≤ T x.toNat ∧ T x.toNat ≤ 57); omega), by omega, by omega, by omega⟩))), (by omega), rfl, by rw [hbe]⟩
          · skip
            refine lv_aload_n Ex Eb dX6_advance_93 rfl (lv_at hl 1 rfl) ?_
            refine lo_callV (q0 := 0) (rest := []) E hK hw (kX6_readWord l X xt tt tn x x tk tv T (ht) (hT) (by omega)) (cwV 0 E.2.2.2.2 gX6_advance_X6_readWord rfl rfl rfl (by decide +kernel) ⟨Nat.le_of_ble_eq_true rfl, Nat.le_of_ble_eq_true rfl⟩) rfl rfl [0, 1] rfl (by decide) hl.1 rfl rfl (Nat.le_of_ble_eq_true rfl) dX6_advance_94 ⟨Nat.le_of_ble_eq_true rfl, Nat.le_of_ble_eq_true rfl⟩ (fun v w1 H locs hq hw => ?_)
            obtain ⟨rfl, rfl⟩ := hq
            have hw : lo_Wd X ([oX6 xt tt tn (spE pLe T tn x) x 1 tv, arB X tt 500 (sB T)]) A9 s9.heap H locs := hw
            refine W.eq (g2 := F0 m9 97 ls []) rfl ?_
            refine lv_goto (tgt := 151) Ex Eb dX6_advance_97 (by decide) ?_
            exact lo_vret E hRt hLk hK hAe hw dX6_advance_151 rfl ⟨spE pLe T tn x, 1, tv, (by rw [hbe]; first | (exfalso; omega) | exact Or.inl ⟨by omega, by omega, by omega, by omega⟩ | exact Or.inr (Or.inl ⟨by omega, (by show 97 ≤ T x.toNat ∧ T x.toNat ≤ 122; omega), by omega, by omega, by omega⟩) | exact Or.inr (Or.inr (Or.inl ⟨by omega, (by show 48 ≤ T x.toNat ∧ T x.toNat ≤ 57; omega), by omega, by omega, by omega⟩)) | exact Or.inr (Or.inr (Or.inr ⟨by omega, (by show ¬ (97 ≤ T x.toNat ∧ T x.toNat ≤ 122); omega), (by show ¬ (48 ≤ T x.toNat ∧ T x.toNat ≤ 57); omega), by omega, by omega, by omega⟩))), (by omega), rfl, by rw [hbe]⟩
        · skip
          refine lv_aload_n Ex Eb dX6_advance_78 rfl (lv_at hl 1 rfl) ?_
          refine lv_iconst (v := iI 0) Ex Eb dX6_advance_79 rfl ?_
          refine lo_put E hK hw huRX6 tyX6 tyX6_ok nmX6 4 hf21 rfl 0 rfl rfl (by decide) rfl rfl rfl rfl (Nat.le_of_ble_eq_true rfl) (ws' := [oX6 xt tt tn x x 0 tv, arB X tt 500 (sB T)]) rfl dX6_advance_80 (fun H locs hw => ?_)
          refine lv_goto (tgt := 151) Ex Eb dX6_advance_83 (by decide) ?_
          exact lo_vret E hRt hLk hK hAe hw dX6_advance_151 rfl ⟨x, 0, tv, (by rw [hbe]; first | (exfalso; omega) | exact Or.inl ⟨by omega, by omega, by omega, by omega⟩ | exact Or.inr (Or.inl ⟨by omega, (by show 97 ≤ T x.toNat ∧ T x.toNat ≤ 122; omega), by omega, by omega, by omega⟩) | exact Or.inr (Or.inr (Or.inl ⟨by omega, (by show 48 ≤ T x.toNat ∧ T x.toNat ≤ 57; omega), by omega, by omega, by omega⟩)) | exact Or.inr (Or.inr (Or.inr ⟨by omega, (by show ¬ (97 ≤ T x.toNat ∧ T x.toNat ≤ 122); omega), (by show ¬ (48 ≤ T x.toNat ∧ T x.toNat ≤ 57); omega), by omega, by omega, by omega⟩))), (by omega), rfl, by rw [hbe]⟩
      · skip
        refine lv_aload_n Ex Eb dX6_advance_11 rfl (lv_at hl 0 rfl) ?_
        refine lv_aload_n Ex Eb dX6_advance_12 rfl (lv_at hl 0 rfl) ?_
        refine lo_get E hK hw huRX6 2 hf15 rfl 0 rfl rfl (by decide) (v := .int (iI x)) rfl dX6_advance_13 ?_
        refine lo_callV (q0 := 0) (rest := []) E hK hw (kX6_byteAt l X xt tt tn x ts tk tv T x (ht) (hT) (by omega)) (cwV 1 E.2.2.2.2 gX6_advance_X6_byteAt rfl rfl rfl (by decide +kernel) ⟨Nat.le_of_ble_eq_true rfl, Nat.le_of_ble_eq_true rfl⟩) rfl rfl [0, 1] rfl (by decide) hl.1 rfl rfl (Nat.le_of_ble_eq_true rfl) dX6_advance_16 ⟨Nat.le_of_ble_eq_true rfl, Nat.le_of_ble_eq_true rfl⟩ (fun v w1 H locs hq hw => ?_)
        obtain ⟨z12, q16_0, q16_1, rfl, rfl⟩ := hq
        have hw : lo_Wd X ([oX6 xt tt tn x ts tk tv, arB X tt 500 (sB T)]) A9 s9.heap H locs := hw
        refine W.eq (g2 := F0 m9 19 ls [.int (iI z12)]) rfl ?_
        refine lv_bipush (v := iI 32) Ex Eb dX6_advance_19 rfl ?_
        refine lo_icmp_eq (tgt := 37) E dX6_advance_21 (by decide) (by omega) (by omega) (fun c13 => ?_) (fun c13 => ?_)
        · skip
          refine lv_aload_n Ex Eb dX6_advance_37 rfl (lv_at hl 0 rfl) ?_
          refine lv_dup Ex Eb dX6_advance_38 rfl ?_
          refine lo_get E hK hw huRX6 2 hf15 rfl 0 rfl rfl (by decide) (v := .int (iI x)) rfl dX6_advance_39 ?_
          refine lv_iconst (v := iI 1) Ex Eb dX6_advance_42 rfl ?_
          refine lo_iadd E dX6_advance_43 ?_
          refine lo_put E hK hw huRX6 tyX6 tyX6_ok nmX6 2 hf15 rfl 0 rfl rfl (by decide) rfl rfl rfl rfl (Nat.le_of_ble_eq_true rfl) (ws' := [oX6 xt tt tn (x + 1) ts tk tv, arB X tt 500 (sB T)]) rfl dX6_advance_44 (fun H locs hw => ?_)
          refine lv_goto (tgt := 0) Ex Eb dX6_advance_47 (by decide) ?_
          exact ih0 (x + 1) (by omega) (by omega) (by rw [← iv0_1]; exact (spE_s (by omega) (by show T x.toNat = 32 ∨ T x.toNat = 10; omega)).symm) _ _ _ hw (lv_sub hl [0] rfl)
        · skip
          refine lv_aload_n Ex Eb dX6_advance_24 rfl (lv_at hl 0 rfl) ?_
          refine lv_aload_n Ex Eb dX6_advance_25 rfl (lv_at hl 0 rfl) ?_
          refine lo_get E hK hw huRX6 2 hf15 rfl 0 rfl rfl (by decide) (v := .int (iI x)) rfl dX6_advance_26 ?_
          refine lo_callV (q0 := 0) (rest := []) E hK hw (kX6_byteAt l X xt tt tn x ts tk tv T x (ht) (hT) (by omega)) (cwV 1 E.2.2.2.2 gX6_advance_X6_byteAt rfl rfl rfl (by decide +kernel) ⟨Nat.le_of_ble_eq_true rfl, Nat.le_of_ble_eq_true rfl⟩) rfl rfl [0, 1] rfl (by decide) hl.1 rfl rfl (Nat.le_of_ble_eq_true rfl) dX6_advance_29 ⟨Nat.le_of_ble_eq_true rfl, Nat.le_of_ble_eq_true rfl⟩ (fun v w1 H locs hq hw => ?_)
          obtain ⟨z14, q29_0, q29_1, rfl, rfl⟩ := hq
          have hw : lo_Wd X ([oX6 xt tt tn x ts tk tv, arB X tt 500 (sB T)]) A9 s9.heap H locs := hw
          refine W.eq (g2 := F0 m9 32 ls [.int (iI z14)]) rfl ?_
          refine lv_bipush (v := iI 10) Ex Eb dX6_advance_32 rfl ?_
          refine lo_icmp_ne (tgt := 50) E dX6_advance_34 (by decide) (by omega) (by omega) (fun c15 => ?_) (fun c15 => ?_)
          · skip
            have hbe : spE pSp T tn tp = x := by rw [← iv0_1, spE_e (p := pSp) (T := T) (n := tn) (x := x) (fun h => by have h1 := h.1; have h2 := h.2; change T x.toNat = 32 ∨ T x.toNat = 10 at h2; omega)]
            have hrL := spE_r pLe (T := T) (n := tn) (x := x) (by omega)
            have hrD := spE_r pDi (T := T) (n := tn) (x := x) (by omega)
            refine lv_aload_n Ex Eb dX6_advance_50 rfl (lv_at hl 0 rfl) ?_
            refine lv_aload_n Ex Eb dX6_advance_51 rfl (lv_at hl 0 rfl) ?_
            refine lo_get E hK hw huRX6 2 hf15 rfl 0 rfl rfl (by decide) (v := .int (iI x)) rfl dX6_advance_52 ?_
            refine lo_put E hK hw huRX6 tyX6 tyX6_ok nmX6 3 hf18 rfl 0 rfl rfl (by decide) rfl rfl rfl rfl (Nat.le_of_ble_eq_true rfl) (ws' := [oX6 xt tt tn x x tk tv, arB X tt 500 (sB T)]) rfl dX6_advance_55 (fun H locs hw => ?_)
            refine lv_aload_n Ex Eb dX6_advance_58 rfl (lv_at hl 0 rfl) ?_
            refine lv_aload_n Ex Eb dX6_advance_59 rfl (lv_at hl 0 rfl) ?_
            refine lo_get E hK hw huRX6 3 hf18 rfl 0 rfl rfl (by decide) (v := .int (iI x)) rfl dX6_advance_60 ?_
            refine lo_callV (q0 := 0) (rest := []) E hK hw (kX6_byteAt l X xt tt tn x x tk tv T x (ht) (hT) (by omega)) (cwV 1 E.2.2.2.2 gX6_advance_X6_byteAt rfl rfl rfl (by decide +kernel) ⟨Nat.le_of_ble_eq_true rfl, Nat.le_of_ble_eq_true rfl⟩) rfl rfl [0, 1] rfl (by decide) hl.1 rfl rfl (Nat.le_of_ble_eq_true rfl) dX6_advance_63 ⟨Nat.le_of_ble_eq_true rfl, Nat.le_of_ble_eq_true rfl⟩ (fun v w1 H locs hq hw => ?_)
            obtain ⟨z16, q63_0, q63_1, rfl, rfl⟩ := hq
            have hw : lo_Wd X ([oX6 xt tt tn x x tk tv, arB X tt 500 (sB T)]) A9 s9.heap H locs := hw
            refine W.eq (g2 := F0 m9 66 ls [.int (iI z16)]) rfl ?_
            refine lv_istore_n (lv' := [(1, .int (iI z16)), (0, .ref xt)]) Ex Eb dX6_advance_66 rfl hl (by decide) rfl (fun ls hl => ?_)
            refine lv_aload_n Ex Eb dX6_advance_67 rfl (lv_at hl 1 rfl) ?_
            refine lo_get E hK hw huRX6 3 hf18 rfl 0 rfl rfl (by decide) (v := .int (iI x)) rfl dX6_advance_68 ?_
            refine lv_aload_n Ex Eb dX6_advance_71 rfl (lv_at hl 1 rfl) ?_
            refine lo_get E hK hw huRX6 1 hf9 rfl 0 rfl rfl (by decide) (v := .int (iI tn)) rfl dX6_advance_72 ?_
            refine lo_icmp_lt (tgt := 86) E dX6_advance_75 (by decide) (by omega) (by omega) (fun c17 => ?_) (fun c17 => ?_)
            · skip
              refine lv_iload_n Ex Eb dX6_advance_86 rfl (lv_at hl 0 rfl) ?_
              refine lo_callS (rest := []) E hK hw (kX6_isLetter l X z16 (by omega)) (cwS 1 E.2.2.2.2 gX6_advance_X6_isLetter rfl rfl rfl (by decide +kernel) ⟨Nat.le_of_ble_eq_true rfl, Nat.le_of_ble_eq_true rfl⟩) [] rfl (by decide) hl.1 rfl rfl (Nat.le_of_ble_eq_true rfl) dX6_advance_87 ⟨Nat.le_of_ble_eq_true rfl, Nat.le_of_ble_eq_true rfl⟩ (fun v w1 H locs hq hw => ?_)
              obtain ⟨z18, q87_0, rfl, rfl⟩ := hq
              have hw : lo_Wd X ([oX6 xt tt tn x x tk tv, arB X tt 500 (sB T)]) A9 s9.heap H locs := hw
              refine W.eq (g2 := F0 m9 90 ls [.int (iI z18)]) rfl ?_
              refine lo_if_eq (tgt := 100) E dX6_advance_90 (by decide) (by omega) (fun c19 => ?_) (fun c19 => ?_)
              · skip
                refine lv_iload_n Ex Eb dX6_advance_100 rfl (lv_at hl 0 rfl) ?_
                refine lo_callS (rest := []) E hK hw (kX6_isDigit l X z16 (by omega)) (cwS 1 E.2.2.2.2 gX6_advance_X6_isDigit rfl rfl rfl (by decide +kernel) ⟨Nat.le_of_ble_eq_true rfl, Nat.le_of_ble_eq_true rfl⟩) [] rfl (by decide) hl.1 rfl rfl (Nat.le_of_ble_eq_true rfl) dX6_advance_101 ⟨Nat.le_of_ble_eq_true rfl, Nat.le_of_ble_eq_true rfl⟩ (fun v w1 H locs hq hw => ?_)
                obtain ⟨z20, q101_0, rfl, rfl⟩ := hq
                have hw : lo_Wd X ([oX6 xt tt tn x x tk tv, arB X tt 500 (sB T)]) A9 s9.heap H locs := hw
                refine W.eq (g2 := F0 m9 104 ls [.int (iI z20)]) rfl ?_
                refine lo_if_eq (tgt := 114) E dX6_advance_104 (by decide) (by omega) (fun c21 => ?_) (fun c21 => ?_)
                · skip
                  refine lv_aload_n Ex Eb dX6_advance_114 rfl (lv_at hl 1 rfl) ?_
                  refine lv_iload_n Ex Eb dX6_advance_115 rfl (lv_at hl 0 rfl) ?_
                  refine lv_bipush (v := iI 40) Ex Eb dX6_advance_116 rfl ?_
                  refine lo_icmp_eq (tgt := 133) E dX6_advance_118 (by decide) (by omega) (by omega) (fun c22 => ?_) (fun c22 => ?_)
                  · skip
                    refine lv_iconst (v := iI 3) Ex Eb dX6_advance_133 rfl ?_
                    refine lv_goto (tgt := 138) Ex Eb dX6_advance_134 (by decide) ?_
                    refine lo_put E hK hw huRX6 tyX6 tyX6_ok nmX6 4 hf21 rfl 0 rfl rfl (by decide) rfl rfl rfl rfl (Nat.le_of_ble_eq_true rfl) (ws' := [oX6 xt tt tn x x 3 tv, arB X tt 500 (sB T)]) rfl dX6_advance_138 (fun H locs hw => ?_)
                    refine lv_aload_n Ex Eb dX6_advance_141 rfl (lv_at hl 1 rfl) ?_
                    refine lv_dup Ex Eb dX6_advance_142 rfl ?_
                    refine lo_get E hK hw huRX6 2 hf15 rfl 0 rfl rfl (by decide) (v := .int (iI x)) rfl dX6_advance_143 ?_
                    refine lv_iconst (v := iI 1) Ex Eb dX6_advance_146 rfl ?_
                    refine lo_iadd E dX6_advance_147 ?_
                    refine lo_put E hK hw huRX6 tyX6 tyX6_ok nmX6 2 hf15 rfl 0 rfl rfl (by decide) rfl rfl rfl rfl (Nat.le_of_ble_eq_true rfl) (ws' := [oX6 xt tt tn (x + 1) x 3 tv, arB X tt 500 (sB T)]) rfl dX6_advance_148 (fun H locs hw => ?_)
                    exact lo_vret E hRt hLk hK hAe hw dX6_advance_151 rfl ⟨x + 1, 3, tv, (by rw [hbe]; first | (exfalso; omega) | exact Or.inl ⟨by omega, by omega, by omega, by omega⟩ | exact Or.inr (Or.inl ⟨by omega, (by show 97 ≤ T x.toNat ∧ T x.toNat ≤ 122; omega), by omega, by omega, by omega⟩) | exact Or.inr (Or.inr (Or.inl ⟨by omega, (by show 48 ≤ T x.toNat ∧ T x.toNat ≤ 57; omega), by omega, by omega, by omega⟩)) | exact Or.inr (Or.inr (Or.inr ⟨by omega, (by show ¬ (97 ≤ T x.toNat ∧ T x.toNat ≤ 122); omega), (by show ¬ (48 ≤ T x.toNat ∧ T x.toNat ≤ 57); omega), by omega, by omega, by omega⟩))), (by omega), rfl, by rw [hbe]⟩
                  · skip
                    refine lv_iload_n Ex Eb dX6_advance_121 rfl (lv_at hl 0 rfl) ?_
                    refine lv_bipush (v := iI 41) Ex Eb dX6_advance_122 rfl ?_
                    refine lo_icmp_eq (tgt := 133) E dX6_advance_124 (by decide) (by omega) (by omega) (fun c23 => ?_) (fun c23 => ?_)
                    · skip
                      refine lv_iconst (v := iI 3) Ex Eb dX6_advance_133 rfl ?_
                      refine lv_goto (tgt := 138) Ex Eb dX6_advance_134 (by decide) ?_
                      refine lo_put E hK hw huRX6 tyX6 tyX6_ok nmX6 4 hf21 rfl 0 rfl rfl (by decide) rfl rfl rfl rfl (Nat.le_of_ble_eq_true rfl) (ws' := [oX6 xt tt tn x x 3 tv, arB X tt 500 (sB T)]) rfl dX6_advance_138 (fun H locs hw => ?_)
                      refine lv_aload_n Ex Eb dX6_advance_141 rfl (lv_at hl 1 rfl) ?_
                      refine lv_dup Ex Eb dX6_advance_142 rfl ?_
                      refine lo_get E hK hw huRX6 2 hf15 rfl 0 rfl rfl (by decide) (v := .int (iI x)) rfl dX6_advance_143 ?_
                      refine lv_iconst (v := iI 1) Ex Eb dX6_advance_146 rfl ?_
                      refine lo_iadd E dX6_advance_147 ?_
                      refine lo_put E hK hw huRX6 tyX6 tyX6_ok nmX6 2 hf15 rfl 0 rfl rfl (by decide) rfl rfl rfl rfl (Nat.le_of_ble_eq_true rfl) (ws' := [oX6 xt tt tn (x + 1) x 3 tv, arB X tt 500 (sB T)]) rfl dX6_advance_148 (fun H locs hw => ?_)
                      exact lo_vret E hRt hLk hK hAe hw dX6_advance_151 rfl ⟨x + 1, 3, tv, (by rw [hbe]; first | (exfalso; omega) | exact Or.inl ⟨by omega, by omega, by omega, by omega⟩ | exact Or.inr (Or.inl ⟨by omega, (by show 97 ≤ T x.toNat ∧ T x.toNat ≤ 122; omega), by omega, by omega, by omega⟩) | exact Or.inr (Or.inr (Or.inl ⟨by omega, (by show 48 ≤ T x.toNat ∧ T x.toNat ≤ 57; omega), by omega, by omega, by omega⟩)) | exact Or.inr (Or.inr (Or.inr ⟨by omega, (by show ¬ (97 ≤ T x.toNat ∧ T x.toNat ≤ 122); omega), (by show ¬ (48 ≤ T x.toNat ∧ T x.toNat ≤ 57); omega), by omega, by omega, by omega⟩))), (by omega), rfl, by rw [hbe]⟩
                    · skip
                      refine lv_iload_n Ex Eb dX6_advance_127 rfl (lv_at hl 0 rfl) ?_
                      refine lv_bipush (v := iI 59) Ex Eb dX6_advance_128 rfl ?_
                      refine lo_icmp_ne (tgt := 137) E dX6_advance_130 (by decide) (by omega) (by omega) (fun c24 => ?_) (fun c24 => ?_)
                      · skip
                        refine lv_iconst (v := iI 4) Ex Eb dX6_advance_137 rfl ?_
                        refine lo_put E hK hw huRX6 tyX6 tyX6_ok nmX6 4 hf21 rfl 0 rfl rfl (by decide) rfl rfl rfl rfl (Nat.le_of_ble_eq_true rfl) (ws' := [oX6 xt tt tn x x 4 tv, arB X tt 500 (sB T)]) rfl dX6_advance_138 (fun H locs hw => ?_)
                        refine lv_aload_n Ex Eb dX6_advance_141 rfl (lv_at hl 1 rfl) ?_
                        refine lv_dup Ex Eb dX6_advance_142 rfl ?_
                        refine lo_get E hK hw huRX6 2 hf15 rfl 0 rfl rfl (by decide) (v := .int (iI x)) rfl dX6_advance_143 ?_
                        refine lv_iconst (v := iI 1) Ex Eb dX6_advance_146 rfl ?_
                        refine lo_iadd E dX6_advance_147 ?_
                        refine lo_put E hK hw huRX6 tyX6 tyX6_ok nmX6 2 hf15 rfl 0 rfl rfl (by decide) rfl rfl rfl rfl (Nat.le_of_ble_eq_true rfl) (ws' := [oX6 xt tt tn (x + 1) x 4 tv, arB X tt 500 (sB T)]) rfl dX6_advance_148 (fun H locs hw => ?_)
                        exact lo_vret E hRt hLk hK hAe hw dX6_advance_151 rfl ⟨x + 1, 4, tv, (by rw [hbe]; first | (exfalso; omega) | exact Or.inl ⟨by omega, by omega, by omega, by omega⟩ | exact Or.inr (Or.inl ⟨by omega, (by show 97 ≤ T x.toNat ∧ T x.toNat ≤ 122; omega), by omega, by omega, by omega⟩) | exact Or.inr (Or.inr (Or.inl ⟨by omega, (by show 48 ≤ T x.toNat ∧ T x.toNat ≤ 57; omega), by omega, by omega, by omega⟩)) | exact Or.inr (Or.inr (Or.inr ⟨by omega, (by show ¬ (97 ≤ T x.toNat ∧ T x.toNat ≤ 122); omega), (by show ¬ (48 ≤ T x.toNat ∧ T x.toNat ≤ 57); omega), by omega, by omega, by omega⟩))), (by omega), rfl, by rw [hbe]⟩
                      · skip
                        refine lv_iconst (v := iI 3) Ex Eb dX6_advance_133 rfl ?_
                        refine lv_goto (tgt := 138) Ex Eb dX6_advance_134 (by decide) ?_
                        refine lo_put E hK hw huRX6 tyX6 tyX6_ok nmX6 4 hf21 rfl 0 rfl rfl (by decide) rfl rfl rfl rfl (Nat.le_of_ble_eq_true rfl) (ws' := [oX6 xt tt tn x x 3 tv, arB X tt 500 (sB T)]) rfl dX6_advance_138 (fun H locs hw => ?_)
                        refine lv_aload_n Ex Eb dX6_advance_141 rfl (lv_at hl 1 rfl) ?_
                        refine lv_dup Ex Eb dX6_advance_142 rfl ?_
                        refine lo_get E hK hw huRX6 2 hf15 rfl 0 rfl rfl (by decide) (v := .int (iI x)) rfl dX6_advance_143 ?_
                        refine lv_iconst (v := iI 1) Ex Eb dX6_advance_146 rfl ?_
                        refine lo_iadd E dX6_advance_147 ?_
                        refine lo_put E hK hw huRX6 tyX6 tyX6_ok nmX6 2 hf15 rfl 0 rfl rfl (by decide) rfl rfl rfl rfl (Nat.le_of_ble_eq_true rfl) (ws' := [oX6 xt tt tn (x + 1) x 3 tv, arB X tt 500 (sB T)]) rfl dX6_advance_148 (fun H locs hw => ?_)
                        exact lo_vret E hRt hLk hK hAe hw dX6_advance_151 rfl ⟨x + 1, 3, tv, (by rw [hbe]; first | (exfalso; omega) | exact Or.inl ⟨by omega, by omega, by omega, by omega⟩ | exact Or.inr (Or.inl ⟨by omega, (by show 97 ≤ T x.toNat ∧ T x.toNat ≤ 122; omega), by omega, by omega, by omega⟩) | exact Or.inr (Or.inr (Or.inl ⟨by omega, (by show 48 ≤ T x.toNat ∧ T x.toNat ≤ 57; omega), by omega, by omega, by omega⟩)) | exact Or.inr (Or.inr (Or.inr ⟨by omega, (by show ¬ (97 ≤ T x.toNat ∧ T x.toNat ≤ 122); omega), (by show ¬ (48 ≤ T x.toNat ∧ T x.toNat ≤ 57); omega), by omega, by omega, by omega⟩))), (by omega), rfl, by rw [hbe]⟩
                · skip
                  refine lv_aload_n Ex Eb dX6_advance_107 rfl (lv_at hl 1 rfl) ?_
                  refine lo_callV (q0 := 0) (rest := []) E hK hw (kX6_readDigits l X xt tt tn x tk tv T (ht) (hT) (by omega)) (cwV 0 E.2.2.2.2 gX6_advance_X6_readDigits rfl rfl rfl (by decide +kernel) ⟨Nat.le_of_ble_eq_true rfl, Nat.le_of_ble_eq_true rfl⟩) rfl rfl [0, 1] rfl (by decide) hl.1 rfl rfl (Nat.le_of_ble_eq_true rfl) dX6_advance_108 ⟨Nat.le_of_ble_eq_true rfl, Nat.le_of_ble_eq_true rfl⟩ (fun v w1 H locs hq hw => ?_)
                  obtain ⟨nk25, q108_0, q108_1, rfl, rfl⟩ := hq
                  have hw : lo_Wd X ([oX6 xt tt tn (spE pDi T tn x) x nk25 (fgE T tn x x 0), arB X tt 500 (sB T)]) A9 s9.heap H locs := hw
                  refine W.eq (g2 := F0 m9 111 ls []) rfl ?_
                  refine lv_goto (tgt := 151) Ex Eb dX6_advance_111 (by decide) ?_
                  exact lo_vret E hRt hLk hK hAe hw dX6_advance_151 rfl ⟨spE pDi T tn x, nk25, fgE T tn x x 0, (by rw [hbe]; first | (exfalso; omega) | exact Or.inl ⟨by omega, by omega, by omega, by omega⟩ | exact Or.inr (Or.inl ⟨by omega, (by show 97 ≤ T x.toNat ∧ T x.toNat ≤ 122; omega), by omega, by omega, by omega⟩) | exact Or.inr (Or.inr (Or.inl ⟨by omega, (by show 48 ≤ T x.toNat ∧ T x.toNat ≤ 57; omega), by omega, by omega, by omega⟩)) | exact Or.inr (Or.inr (Or.inr ⟨by omega, (by show ¬ (97 ≤ T x.toNat ∧ T x.toNat ≤ 122); omega), (by show ¬ (48 ≤ T x.toNat ∧ T x.toNat ≤ 57); omega), by omega, by omega, by omega⟩))), (by omega), rfl, by rw [hbe]⟩
              · skip
                refine lv_aload_n Ex Eb dX6_advance_93 rfl (lv_at hl 1 rfl) ?_
                refine lo_callV (q0 := 0) (rest := []) E hK hw (kX6_readWord l X xt tt tn x x tk tv T (ht) (hT) (by omega)) (cwV 0 E.2.2.2.2 gX6_advance_X6_readWord rfl rfl rfl (by decide +kernel) ⟨Nat.le_of_ble_eq_true rfl, Nat.le_of_ble_eq_true rfl⟩) rfl rfl [0, 1] rfl (by decide) hl.1 rfl rfl (Nat.le_of_ble_eq_true rfl) dX6_advance_94 ⟨Nat.le_of_ble_eq_true rfl, Nat.le_of_ble_eq_true rfl⟩ (fun v w1 H locs hq hw => ?_)
                obtain ⟨rfl, rfl⟩ := hq
                have hw : lo_Wd X ([oX6 xt tt tn (spE pLe T tn x) x 1 tv, arB X tt 500 (sB T)]) A9 s9.heap H locs := hw
                refine W.eq (g2 := F0 m9 97 ls []) rfl ?_
                refine lv_goto (tgt := 151) Ex Eb dX6_advance_97 (by decide) ?_
                exact lo_vret E hRt hLk hK hAe hw dX6_advance_151 rfl ⟨spE pLe T tn x, 1, tv, (by rw [hbe]; first | (exfalso; omega) | exact Or.inl ⟨by omega, by omega, by omega, by omega⟩ | exact Or.inr (Or.inl ⟨by omega, (by show 97 ≤ T x.toNat ∧ T x.toNat ≤ 122; omega), by omega, by omega, by omega⟩) | exact Or.inr (Or.inr (Or.inl ⟨by omega, (by show 48 ≤ T x.toNat ∧ T x.toNat ≤ 57; omega), by omega, by omega, by omega⟩)) | exact Or.inr (Or.inr (Or.inr ⟨by omega, (by show ¬ (97 ≤ T x.toNat ∧ T x.toNat ≤ 122); omega), (by show ¬ (48 ≤ T x.toNat ∧ T x.toNat ≤ 57); omega), by omega, by omega, by omega⟩))), (by omega), rfl, by rw [hbe]⟩
            · skip
              refine lv_aload_n Ex Eb dX6_advance_78 rfl (lv_at hl 1 rfl) ?_
              refine lv_iconst (v := iI 0) Ex Eb dX6_advance_79 rfl ?_
              refine lo_put E hK hw huRX6 tyX6 tyX6_ok nmX6 4 hf21 rfl 0 rfl rfl (by decide) rfl rfl rfl rfl (Nat.le_of_ble_eq_true rfl) (ws' := [oX6 xt tt tn x x 0 tv, arB X tt 500 (sB T)]) rfl dX6_advance_80 (fun H locs hw => ?_)
              refine lv_goto (tgt := 151) Ex Eb dX6_advance_83 (by decide) ?_
              exact lo_vret E hRt hLk hK hAe hw dX6_advance_151 rfl ⟨x, 0, tv, (by rw [hbe]; first | (exfalso; omega) | exact Or.inl ⟨by omega, by omega, by omega, by omega⟩ | exact Or.inr (Or.inl ⟨by omega, (by show 97 ≤ T x.toNat ∧ T x.toNat ≤ 122; omega), by omega, by omega, by omega⟩) | exact Or.inr (Or.inr (Or.inl ⟨by omega, (by show 48 ≤ T x.toNat ∧ T x.toNat ≤ 57; omega), by omega, by omega, by omega⟩)) | exact Or.inr (Or.inr (Or.inr ⟨by omega, (by show ¬ (97 ≤ T x.toNat ∧ T x.toNat ≤ 122); omega), (by show ¬ (48 ≤ T x.toNat ∧ T x.toNat ≤ 57); omega), by omega, by omega, by omega⟩))), (by omega), rfl, by rw [hbe]⟩
          · skip
            refine lv_aload_n Ex Eb dX6_advance_37 rfl (lv_at hl 0 rfl) ?_
            refine lv_dup Ex Eb dX6_advance_38 rfl ?_
            refine lo_get E hK hw huRX6 2 hf15 rfl 0 rfl rfl (by decide) (v := .int (iI x)) rfl dX6_advance_39 ?_
            refine lv_iconst (v := iI 1) Ex Eb dX6_advance_42 rfl ?_
            refine lo_iadd E dX6_advance_43 ?_
            refine lo_put E hK hw huRX6 tyX6 tyX6_ok nmX6 2 hf15 rfl 0 rfl rfl (by decide) rfl rfl rfl rfl (Nat.le_of_ble_eq_true rfl) (ws' := [oX6 xt tt tn (x + 1) ts tk tv, arB X tt 500 (sB T)]) rfl dX6_advance_44 (fun H locs hw => ?_)
            refine lv_goto (tgt := 0) Ex Eb dX6_advance_47 (by decide) ?_
            exact ih0 (x + 1) (by omega) (by omega) (by rw [← iv0_1]; exact (spE_s (by omega) (by show T x.toNat = 32 ∨ T x.toNat = 10; omega)).symm) _ _ _ hw (lv_sub hl [0] rfl)
  exact lp0 _ tp (Nat.lt_succ_self _) (by omega) (rfl) _ _ _ hw (lv_sub hl [0] rfl)
