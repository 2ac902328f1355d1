/-! the texts: their length, their signs -/
theorem lo_tx_r : ∀ i < 21, ∀ x ∈ lo_tx i, 0 ≤ x ∧ x < 128 := by decide
theorem lo_tx_g {i : Nat} (hi : i < 21) (j : Nat) : 0 ≤ (lo_tx i).getD j 0 ∧ (lo_tx i).getD j 0 < 128 := by
  rw [List.getD_eq_getElem?_getD]
  cases h : (lo_tx i)[j]? with
  | none => decide
  | some v => exact lo_tx_r i hi v (List.mem_of_getElem? h)
theorem lo_tx_l : ∀ i < 21, (lo_tx i).length ≤ 100 := by decide
section LOK
variable {p : Program} {l : Launch} {e : Env} {R : Room} {s : State} {m : MethodId} {args : Array Value} {below : List Frame} {meth : Method} {c : Code} {H : Heap} {locs : List Loc} {cells slots : Nat} {Q : State → Prop}
variable {cc : ByteArray} {pc nL : Nat} {ls : Array Slot} {rest st0 : List Value} {Ts : List Cond} {own : String} {X : KX} {kS : Nat → Nat} {ws : va_W} {A : Nat → Prop}
/-- a virtual call on a text -/
theorem lo_callVK {y : MethodName} {bytes : ByteArray} {maxL index n mc ms : Nat} {ret : Option FieldType} {wsy : List Cond} {rm : Room} {b : Nat} {As rest : List Value} {w0 : va_W} {post : Option Value → va_W → Prop} {C : String} (E : CallFix p m c cc nL s args Ts own) (hK : lo_K X s) (hw : lo_Wd X ws A s.heap H locs) (hV : lo_Ev kS A s s.heap)
    (hM : CE l X kS y wsy rm (.ref b :: As) w0 post mc ms) (cw : CallW R s args own C index y bytes maxL ret wsy rm mc ms n) (hO : va_O C b A s s.heap) (ps : List Nat) (hps : ps.map (fun i => ws[i]?) = w0.map some) (hnd : va_nd ps = true) (hls : ls.size = nL) (hn : As.length = n)
    (hst : st0 = As.reverse ++ .ref b :: rest) (hroom : (rest.map fun v => v.category).sum ≤ 8) (hdg : decode cc pc = .ok (.invokevirtual index, 3)) (hf : cells + mc ≤ R.cells ∧ slots + ms ≤ R.slots)
    (kk : ∀ (v : Option Value) (w1 : va_W) (H1 : Heap) (locs1 : List Loc), post v w1 → lo_Wd X (lo_sets ws ps w1) A s.heap H1 locs1 → W p l e R s m args below meth c H1 locs1 (cells + mc) (slots + ms) Q (F0 m (pc + 3) ls (v.toList ++ rest))) : W p l e R s m args below meth c H locs cells slots Q (F0 m pc ls st0) :=
  lo_call (rest := rest) ps (va_runV E (hM H.size) cw ⟨lo_blindE X kS _ w0 H.size, va_Orecv hO hw.2.2.1, fun U hU hW => lo_preE ps hK hw hV hps hnd U hU hW⟩ rfl hn hls hst (lv_room hroom) hdg hf) hw hps hnd kk
end LOK
theorem kJ0_coder (l : Launch) (X : KX) (kS : Nat → Nat) (i : Nat) (hi : i < 21) : CE l X kS yJ0_coder_7d493 wsJ0_coder_7d493 ({ frames := 0, cells := 0, slots := 0, locals := 0 }) [.ref (kS i)] [] (fun v9 w9 => v9 = some (.int (iI 0)) ∧ w9 = []) 0 0 := by
  refine lo_enterE (cc := cJ0_coder_7d493) (maxL := 1) (ret := (some .byte)) (lv := [(0, .ref (kS i))]) (by decide) rfl rfl (Nat.le_of_ble_eq_true rfl) ?_
  intro p9 e9 s9 m9 bl9 me9 c9 A9 ls hAe E hRt hLk hK hl hw hV
  have Ex := E.1
  have Eb := E.2.1
  have hSt := hV.2.2.2.2.2.1 i hi
  refine va_gets Ex Eb hV.2.2.2.1 hw.2.2.1 E.2.2.2.1 (E.2.2.2.2 _ (List.mem_of_getElem? (i := 1) rfl)) (fun _ h => h) dJ0_coder_7d493_0 ?_
  refine lo_if_eq (tgt := 13) E dJ0_coder_7d493_3 (by decide) (by omega) (fun c1 => absurd c1 (by omega)) (fun c1 => ?_)
  refine lv_aload_n Ex Eb dJ0_coder_7d493_6 rfl (lv_at hl 0 rfl) ?_
  refine vk_getf Ex Eb hSt.2.1 hw.2.2.1 E.2.2.2.1 (E.2.2.2.2 _ (List.mem_of_getElem? (i := 2) rfl)) (fun _ h => h) dJ0_coder_7d493_7 ?_
  refine lv_goto (tgt := 14) Ex Eb dJ0_coder_7d493_10 (by decide) ?_
  exact lo_zret E hRt hLk hK hAe hw dJ0_coder_7d493_14 rfl rfl ⟨rfl, rfl⟩
theorem kJ0_isLatin1 (l : Launch) (X : KX) (kS : Nat → Nat) (i : Nat) (hi : i < 21) : CE l X kS yJ0_isLatin1_aae02 wsJ0_isLatin1_aae02 ({ frames := 0, cells := 0, slots := 0, locals := 0 }) [.ref (kS i)] [] (fun v9 w9 => v9 = some (.int (iI 1)) ∧ w9 = []) 0 0 := by
  refine lo_enterE (cc := cJ0_isLatin1_aae02) (maxL := 1) (ret := (some .boolean)) (lv := [(0, .ref (kS i))]) (by decide) rfl rfl (Nat.le_of_ble_eq_true rfl) ?_
  intro p9 e9 s9 m9 bl9 me9 c9 A9 ls hAe E hRt hLk hK hl hw hV
  have Ex := E.1
  have Eb := E.2.1
  have hSt := hV.2.2.2.2.2.1 i hi
  refine va_gets Ex Eb hV.2.2.2.1 hw.2.2.1 E.2.2.2.1 (E.2.2.2.2 _ (List.mem_of_getElem? (i := 1) rfl)) (fun _ h => h) dJ0_isLatin1_aae02_0 ?_
  refine lo_if_eq (tgt := 17) E dJ0_isLatin1_aae02_3 (by decide) (by omega) (fun c1 => absurd c1 (by omega)) (fun c1 => ?_)
  refine lv_aload_n Ex Eb dJ0_isLatin1_aae02_6 rfl (lv_at hl 0 rfl) ?_
  refine vk_getf Ex Eb hSt.2.1 hw.2.2.1 E.2.2.2.1 (E.2.2.2.2 _ (List.mem_of_getElem? (i := 2) rfl)) (fun _ h => h) dJ0_isLatin1_aae02_7 ?_
  refine lo_if_ne (tgt := 17) E dJ0_isLatin1_aae02_10 (by decide) (by omega) (fun c2 => absurd rfl c2) (fun c2 => ?_)
  refine lv_iconst (v := iI 1) Ex Eb dJ0_isLatin1_aae02_13 rfl ?_
  refine lv_goto (tgt := 18) Ex Eb dJ0_isLatin1_aae02_14 (by decide) ?_
  exact lo_zret E hRt hLk hK hAe hw dJ0_isLatin1_aae02_18 rfl rfl ⟨rfl, rfl⟩
theorem kJ0_length_8abf5 (l : Launch) (X : KX) (kS : Nat → Nat) (i : Nat) (hi : i < 21) : CE l X kS yJ0_length_8abf5 wsJ0_length_8abf5 ({ frames := 1, cells := 0, slots := 0, locals := 20 }) [.ref (kS i)] [] (fun v9 w9 => v9 = some (.int (iI (lo_tx i).length)) ∧ w9 = []) 0 0 := by
  refine lo_enterE (cc := cJ0_length_8abf5) (maxL := 1) (ret := (some .int)) (lv := [(0, .ref (kS i))]) (by decide) rfl rfl (Nat.le_of_ble_eq_true rfl) ?_
  intro p9 e9 s9 m9 bl9 me9 c9 A9 ls hAe E hRt hLk hK hl hw hV
  have Ex := E.1
  have Eb := E.2.1
  obtain ⟨hO, -, v, hF, hT⟩ := hV.2.2.2.2.2.1 i hi
  have hle := lo_tx_l i hi
  refine lv_aload_n Ex Eb dJ0_length_8abf5_0 rfl (lv_at hl 0 rfl) ?_
  refine vk_getf Ex Eb hF hw.2.2.1 E.2.2.2.1 (E.2.2.2.2 _ (List.mem_of_getElem? (i := 1) rfl)) (fun _ h => h) dJ0_length_8abf5_1 ?_
  refine va_tlen (v := iI (lo_tx i).length) Ex Eb hT hw.2.2.1 rfl dJ0_length_8abf5_4 ?_
  refine lv_aload_n Ex Eb dJ0_length_8abf5_5 rfl (lv_at hl 0 rfl) ?_
  refine lo_callVK (rest := [.int (iI (lo_tx i).length)]) E hK hw hV (kJ0_coder l X kS i hi) (cwV 0 E.2.2.2.2 gJ0_length_8abf5_J0_coder_7d493 rfl rfl rfl (by decide +kernel) ⟨Nat.le_of_ble_eq_true rfl, Nat.le_of_ble_eq_true rfl⟩) hO [] rfl (by decide) hl.1 rfl rfl (Nat.le_of_ble_eq_true rfl) dJ0_length_8abf5_6 ⟨Nat.le_of_ble_eq_true rfl, Nat.le_of_ble_eq_true rfl⟩ (fun v w1 H locs hq hw => ?_)
  obtain ⟨rfl, rfl⟩ := hq
  refine lo_ishr (k := 0) (x := (lo_tx i).length) E dJ0_length_8abf5_9 (by omega) (by omega) ?_
  exact lo_iret E hRt hLk hK hAe hw dJ0_length_8abf5_10 rfl ⟨by rw [show ((lo_tx i).length : Int) / 2 ^ 0 = (lo_tx i).length by omega], rfl⟩
theorem kJ3_checkIndex (l : Launch) (X : KX) (q : Value) (hq : q = .null ∨ ∃ t, q = .ref t) (z n9 : Int) (hz : 0 ≤ z ∧ z < n9) (hn : i32 n9) : CM l X yJ3_checkIndex_8e157 wsJ3_checkIndex_8e157 ({ frames := 0, cells := 0, slots := 0, locals := 0 }) [.int (iI z), .int (iI n9), q] [] (fun v9 w9 => v9 = some (.int (iI z)) ∧ w9 = []) 0 0 := by
  rcases hq with rfl | ⟨t, rfl⟩
  · refine lo_enter (cc := cJ3_checkIndex_8e157) (maxL := 3) (ret := (some .int)) (lv := [(0, .int (iI z)), (1, .int (iI n9)), (2, .null)]) (by decide) rfl rfl (Nat.le_of_ble_eq_true rfl) ?_
    intro p9 e9 s9 m9 bl9 me9 c9 A9 ls hAe E hRt hLk hK hl hw
    refine lv_iload_n E.1 E.2.1 dJ3_checkIndex_8e157_0 rfl (lv_at hl 0 rfl) ?_
    refine lo_if_lt (tgt := 9) E dJ3_checkIndex_8e157_1 (by decide) (by omega) (fun c1 => absurd c1 (by omega)) (fun c1 => ?_)
    refine lv_iload_n E.1 E.2.1 dJ3_checkIndex_8e157_4 rfl (lv_at hl 0 rfl) ?_
    refine lv_iload_n E.1 E.2.1 dJ3_checkIndex_8e157_5 rfl (lv_at hl 1 rfl) ?_
    refine lo_icmp_lt (tgt := 16) E dJ3_checkIndex_8e157_6 (by decide) (by omega) (by omega) (fun c1 => ?_) (fun c1 => absurd hz.2 (by omega))
    refine lv_iload_n E.1 E.2.1 dJ3_checkIndex_8e157_16 rfl (lv_at hl 0 rfl) ?_
    exact lo_iret E hRt hLk hK hAe hw dJ3_checkIndex_8e157_17 rfl ⟨rfl, rfl⟩
  · refine lo_enter (cc := cJ3_checkIndex_8e157) (maxL := 3) (ret := (some .int)) (lv := [(0, .int (iI z)), (1, .int (iI n9)), (2, .ref t)]) (by decide) rfl rfl (Nat.le_of_ble_eq_true rfl) ?_
    intro p9 e9 s9 m9 bl9 me9 c9 A9 ls hAe E hRt hLk hK hl hw
    refine lv_iload_n E.1 E.2.1 dJ3_checkIndex_8e157_0 rfl (lv_at hl 0 rfl) ?_
    refine lo_if_lt (tgt := 9) E dJ3_checkIndex_8e157_1 (by decide) (by omega) (fun c1 => absurd c1 (by omega)) (fun c1 => ?_)
    refine lv_iload_n E.1 E.2.1 dJ3_checkIndex_8e157_4 rfl (lv_at hl 0 rfl) ?_
    refine lv_iload_n E.1 E.2.1 dJ3_checkIndex_8e157_5 rfl (lv_at hl 1 rfl) ?_
    refine lo_icmp_lt (tgt := 16) E dJ3_checkIndex_8e157_6 (by decide) (by omega) (by omega) (fun c1 => ?_) (fun c1 => absurd hz.2 (by omega))
    refine lv_iload_n E.1 E.2.1 dJ3_checkIndex_8e157_16 rfl (lv_at hl 0 rfl) ?_
    exact lo_iret E hRt hLk hK hAe hw dJ3_checkIndex_8e157_17 rfl ⟨rfl, rfl⟩
theorem kJ0_checkIndex (l : Launch) (X : KX) (kS : Nat → Nat) (z n9 : Int) (hz : 0 ≤ z ∧ z < n9) (hn : i32 n9) : CE l X kS yJ0_checkIndex_df160 wsJ0_checkIndex_df160 ({ frames := 1, cells := 0, slots := 0, locals := 22 }) [.int (iI z), .int (iI n9)] [] (fun v9 w9 => v9 = none ∧ w9 = []) 0 0 := by
  refine lo_enterE (cc := cJ0_checkIndex_df160) (maxL := 2) (ret := none) (lv := [(0, .int (iI z)), (1, .int (iI n9))]) (by decide) rfl rfl (Nat.le_of_ble_eq_true rfl) ?_
  intro p9 e9 s9 m9 bl9 me9 c9 A9 ls hAe E hRt hLk hK hl hw hV
  have Ex := E.1
  have Eb := E.2.1
  have hZq : ∃ q : Value, (q = .null ∨ ∃ t, q = .ref t) ∧ va_Z "jdk/internal/util/Preconditions" "SIOOBE_FORMATTER" "Ljava/util/function/BiFunction;" q A9 s9 s9.heap := by
    rcases hV.2.2.2.2.1 with h | ⟨t, h⟩
    · exact ⟨_, Or.inl rfl, h⟩
    · exact ⟨_, Or.inr ⟨t, rfl⟩, h⟩
  obtain ⟨q, hq, hZ⟩ := hZq
  refine lv_iload_n Ex Eb dJ0_checkIndex_df160_0 rfl (lv_at hl 0 rfl) ?_
  refine lv_iload_n Ex Eb dJ0_checkIndex_df160_1 rfl (lv_at hl 1 rfl) ?_
  refine va_gets Ex Eb hZ hw.2.2.1 E.2.2.2.1 (E.2.2.2.2 _ (List.mem_of_getElem? (i := 1) rfl)) (fun _ h => h) dJ0_checkIndex_df160_2 ?_
  refine lo_callS (rest := []) E hK hw (kJ3_checkIndex l X q hq z n9 hz hn) (va_cwS 3 E.2.2.2.2 gJ0_checkIndex_df160_J3_checkIndex_8e157 rfl rfl rfl (by decide +kernel) ⟨Nat.le_of_ble_eq_true rfl, Nat.le_of_ble_eq_true rfl⟩) [] rfl (by decide) hl.1 rfl rfl (Nat.le_of_ble_eq_true rfl) dJ0_checkIndex_df160_5 ⟨Nat.le_of_ble_eq_true rfl, Nat.le_of_ble_eq_true rfl⟩ (fun v w1 H locs hq9 hw => ?_)
  obtain ⟨rfl, rfl⟩ := hq9
  refine lv_pop (va := .int (iI z)) Ex Eb dJ0_checkIndex_df160_8 rfl ?_
  exact lo_vret E hRt hLk hK hAe hw dJ0_checkIndex_df160_9 rfl ⟨rfl, rfl⟩
