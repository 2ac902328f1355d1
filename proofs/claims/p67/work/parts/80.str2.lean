/-! a sign of a text -/
def lo_PcB (X : KX) (kS : Nat → Nat) (as : List Value) (sz v : Nat) (t : List Int) : Array Value → State → Prop := fun a U => lo_PcE X kS as [] sz a U ∧ va_T .byte v t.length (fun j => .int (iI (t.getD j 0))) (va_A [] sz) U U.heap
theorem lo_blindB (X : KX) (kS : Nat → Nat) (as : List Value) (sz v : Nat) (t : List Int) : FrameBlind (lo_PcB X kS as sz v t) := fun a U g mk q => ⟨lo_blindE X kS as [] sz a U g mk q.1, va_T.moved (u := U) (U := U.calling g mk a) (Vm.Alike.refl U.vm) q.2⟩
theorem kJ1_charAt (l : Launch) (X : KX) (kS : Nat → Nat) (v : Nat) (t : List Int) (z : Int) (hr : 0 ≤ t.getD z.toNat 0 ∧ t.getD z.toNat 0 < 128) (hz : 0 ≤ z ∧ z < t.length) (hn : t.length ≤ 100) (sz : Nat) :
    Met l yJ1_charAt_3b067 wsJ1_charAt_3b067 ({ frames := 2, cells := 0, slots := 0, locals := 43 }) (lo_PcB X kS [.ref v, .int (iI z)] sz v t) (lo_Qc X [] sz (fun v9 w9 => v9 = some (.int (iI (t.getD z.toNat 0))) ∧ w9 = [])) 0 0 (va_A [] sz) := by
  refine Met.ofW (cc := cJ1_charAt_3b067) (maxL := 2) (ret := some .char) (by decide) rfl ?_
  intro p e s m args below meth c s₁ B hml hv
  obtain ⟨⟨rfl, ⟨hsz, hP, hK, hD0⟩, hV⟩, hT⟩ := hv
  subst hsz
  rw [lg_entry_eq]
  have hl := lv_entry (n := 2) [.ref v, .int (iI z)] (Nat.le_of_ble_eq_true rfl)
  rw [show lv_args 0 [.ref v, .int (iI z)] = [(0, .ref v), (1, .int (iI z))] from rfl] at hl
  have E : CallFix p m c cJ1_charAt_3b067 2 s [Value.ref v, .int (iI z)].toArray wsJ1_charAt_3b067 yJ1_charAt_3b067.cls := ⟨B.exec, B.bytes, hml, findClass_of_methodNamed B.named, atoms_spec (ws := wsJ1_charAt_3b067) B.pre⟩
  have hw : lo_Wd X [] (va_A [] s.heap.size) s.heap s.heap [] := ⟨hP, hD0.self, va_S.rf, fun q h => Or.inr h⟩
  refine lv_iload_n E.1 E.2.1 dJ1_charAt_3b067_0 rfl (lv_at hl 1 rfl) ?_
  refine lv_aload_n E.1 E.2.1 dJ1_charAt_3b067_1 rfl (lv_at hl 0 rfl) ?_
  refine va_tlen (v := iI t.length) E.1 E.2.1 hT hw.2.2.1 rfl dJ1_charAt_3b067_2 ?_
  refine lo_callSE (rest := []) E hK hw hV (kJ0_checkIndex l X kS z t.length hz (by omega)) (va_cwS 2 E.2.2.2.2 gJ1_charAt_3b067_J0_checkIndex_df160 rfl rfl rfl (by decide +kernel) ⟨Nat.le_of_ble_eq_true rfl, Nat.le_of_ble_eq_true rfl⟩) [] rfl (by decide) hl.1 rfl rfl (Nat.le_of_ble_eq_true rfl) dJ1_charAt_3b067_3 ⟨Nat.le_of_ble_eq_true rfl, Nat.le_of_ble_eq_true rfl⟩ (fun v1 w1 H locs hq hw => ?_)
  obtain ⟨rfl, rfl⟩ := hq
  refine lv_aload_n E.1 E.2.1 dJ1_charAt_3b067_6 rfl (lv_at hl 0 rfl) ?_
  refine lv_iload_n E.1 E.2.1 dJ1_charAt_3b067_7 rfl (lv_at hl 1 rfl) ?_
  refine va_tb (v := .int (iI (t.getD z.toNat 0))) E.1 E.2.1 hT hw.2.2.1 (iI_in (by omega) hz.1 hz.2) (by show Value.int (iI (t.getD (iI z).toNatClampNeg 0)) = _; rw [iI_cl (by omega)]) dJ1_charAt_3b067_8 ?_
  refine lv_sipush (v := iI 255) E.1 E.2.1 dJ1_charAt_3b067_9 rfl ?_
  refine lo_iand (x := t.getD z.toNat 0) E dJ1_charAt_3b067_12 ?_
  rw [show t.getD z.toNat 0 % 256 = t.getD z.toNat 0 by omega]
  refine lo_i2c (x := t.getD z.toNat 0) E dJ1_charAt_3b067_13 (by omega) ?_
  exact lo_zret E B.returns B.notSynchronized hK rfl hw dJ1_charAt_3b067_14 (congrArg Value.int (iI_c (by omega))) rfl ⟨rfl, rfl⟩
theorem kJ0_charAt_5068e (l : Launch) (X : KX) (kS : Nat → Nat) (i : Nat) (z : Int) (hi : i < 21) (hz : 0 ≤ z ∧ z < (lo_tx i).length) : CE l X kS yJ0_charAt_5068e wsJ0_charAt_5068e ({ frames := 3, cells := 0, slots := 0, locals := 64 }) [.ref (kS i), .int (iI z)] [] (fun v9 w9 => v9 = some (.int (iI ((lo_tx i).getD z.toNat 0))) ∧ w9 = []) 0 0 := by
  refine lo_enterE (cc := cJ0_charAt_5068e) (maxL := 2) (ret := (some .char)) (lv := [(0, .ref (kS i)), (1, .int (iI z))]) (by decide) rfl rfl (Nat.le_of_ble_eq_true rfl) ?_
  intro p9 e9 s9 m9 bl9 me9 c9 A9 ls hAe E hRt hLk hK hl hw hV
  have Ex := E.1
  have Eb := E.2.1
  obtain ⟨hO, -, v, hF, hT⟩ := hV.2.2.2.2.2.1 i hi
  have hle := lo_tx_l i hi
  have hg := lo_tx_g hi z.toNat
  refine lv_aload_n Ex Eb dJ0_charAt_5068e_0 rfl (lv_at hl 0 rfl) ?_
  refine lo_callVK (rest := []) E hK hw hV (kJ0_isLatin1 l X kS i hi) (cwV 0 E.2.2.2.2 gJ0_charAt_5068e_J0_isLatin1_aae02 rfl rfl rfl (by decide +kernel) ⟨Nat.le_of_ble_eq_true rfl, Nat.le_of_ble_eq_true rfl⟩) hO [] rfl (by decide) hl.1 rfl rfl (Nat.le_of_ble_eq_true rfl) dJ0_charAt_5068e_1 ⟨Nat.le_of_ble_eq_true rfl, Nat.le_of_ble_eq_true rfl⟩ (fun v1 w1 H locs hq hw => ?_)
  obtain ⟨rfl, rfl⟩ := hq
  refine lo_if_eq (tgt := 16) E dJ0_charAt_5068e_4 (by decide) (by omega) (fun c1 => absurd c1 (by omega)) (fun c1 => ?_)
  refine lv_aload_n Ex Eb dJ0_charAt_5068e_7 rfl (lv_at hl 0 rfl) ?_
  refine vk_getf Ex Eb hF hw.2.2.1 E.2.2.2.1 (E.2.2.2.2 _ (List.mem_of_getElem? (i := 1) rfl)) (fun _ h => h) dJ0_charAt_5068e_8 ?_
  refine lv_iload_n Ex Eb dJ0_charAt_5068e_11 rfl (lv_at hl 1 rfl) ?_
  have hwS := hw.2.2.1
  have hFr := va_free hw.2.1 hw.2.2.1 hw.2.2.2 (wc := []) [] rfl
  refine lo_call (w0 := []) (rest := []) [] (va_runS E (kJ1_charAt l X kS v (lo_tx i) z hg hz hle H.size) (va_cwS 2 E.2.2.2.2 gJ0_charAt_5068e_J1_charAt_3b067 rfl rfl rfl (by decide +kernel) ⟨Nat.le_of_ble_eq_true rfl, Nat.le_of_ble_eq_true rfl⟩) ⟨lo_blindB X kS _ H.size v (lo_tx i), fun U hU hW => ⟨lo_preE [] hK hw hV rfl (by decide) U hU hW, by rw [hU]; exact ((va_T.kept hT hwS.2.1).narrow hFr).moved hW.alike⟩⟩ rfl rfl hl.1 rfl (lv_room (Nat.le_of_ble_eq_true rfl)) dJ0_charAt_5068e_12 ⟨Nat.le_of_ble_eq_true rfl, Nat.le_of_ble_eq_true rfl⟩) hw rfl (by decide) (fun v1 w1 H1 locs1 hq hw => ?_)
  obtain ⟨rfl, rfl⟩ := hq
  exact lo_zret E hRt hLk hK hAe hw dJ0_charAt_5068e_15 (congrArg Value.int (iI_c (by omega))) rfl ⟨rfl, rfl⟩
