/-! the law from its entry -/
def zI0 (qp qs qk qv qe qx qd q1 q2 q3 qt ke ko : Int) : Nat → Int := fun k => match k with
  | 5 => qe | 6 => qx | 7 => qd | 8 => q1 | 9 => q2 | 10 => q3 | 11 => qt | 12 => ke | 13 => ko | 14 => 87 | 15 => qp | 16 => qs | 17 => qk | 18 => qv | _ => 0
abbrev P_0 : PT := (0, fun _ _ => 0, 0, 0, fun _ => 0, fun _ => 0, fun _ => 0)
abbrev Z_0 (I : Nat → Int) (R9 : PT) (G1 G2 G3 : Nat → Int) : CZ := (I, tx20, fun _ => 0, cpP P_0 R9, P_0, R9, fun _ => P_0, fun _ => 0, fun _ => 0, fun j => if j = 0 then G1 else if j = 1 then G2 else G3)
noncomputable abbrev Y_0 (N : Nat → Int) : RZ := (N, iWC, id, fun _ _ => 0, fun _ => 0, fun _ => 0, fun _ => 0, fun _ => 0, fun _ => 0)
theorem SIM_0 {qp qs qk qv qe qx qd q1 q2 q3 qt ke ko : Int} {R9 : PT} {G1 G2 G3 N f g h : Nat → Int} (hs : SCO tx20 87 (scS tx20 87 f g h) ke ko R9) (hv : 0 ≤ qv ∧ qv ≤ 9999999) (he : EN ke ko) (hN : sameW iM0 N) : SIM (Z_0 (zI0 qp qs qk qv qe qx qd q1 q2 q3 qt ke ko) R9 G1 G2 G3) (Y_0 N) := by
  obtain ⟨e0, hP⟩ := SCO_20 hs
  have hH : HP R9 := SCO_HP (by omega) hs e0
  have n3 : N 3 = 0 := (hN 3 (Or.inl (by omega))).trans rfl
  have n5 : N 5 = 0 := (hN 5 (Or.inl (by omega))).trans rfl
  have n9 : N 9 = 0 := (hN 9 (Or.inl (by omega))).trans rfl
  have n11 : N 11 = 0 := (hN 11 (Or.inl (by omega))).trans rfl
  have n23 : N 23 = 0 := (hN 23 (Or.inr (by omega))).trans rfl
  have n26 : N 26 = 0 := (hN 26 (Or.inr (by omega))).trans rfl
  have n27 : N 27 = -1 := (hN 27 (Or.inr (by omega))).trans rfl
  refine ⟨⟨PW_cp hP, HP_cp hH, hP.1⟩, ⟨⟨fun k hk => absurd (show (k : Int) < N 9 from hk) (by omega), tx20_r⟩, fun _ => ⟨by show (0 : Int) ≤ 0; omega, by show (0 : Int) ≤ 255; omega⟩, n9.symm, by show 0 ≤ N 9; omega, by show N 9 ≤ 500; omega⟩, ⟨?_, n3.symm⟩, ⟨n5.symm, Or.inl n5, PI_0, fun q => absurd (show N 5 = 1 from q) (by omega)⟩, ⟨n11.symm, by show 0 ≤ N 11 ∧ N 11 ≤ 256; omega, fun k _ => rfl⟩, ⟨e0.trans n26.symm, (he e0).trans n27.symm⟩, hv, by show 0 ≤ N 23 ∧ N 23 ≤ 9999999; omega⟩
  show HIS 0 (N 3) (fun _ => P_0) id (fun _ _ => 0)
  exact ⟨by omega, by omega, fun j hj => hj, fun j k _ _ e => e, fun _ => PI_0, fun i hi => absurd hi (by omega)⟩
theorem lz_ps {a b : va_W} {x : Nat × va_E} (ha : a.length = 145) (hb : b.length = 16) : (List.range' 0 145 ++ ([161] ++ List.range' 145 16)).map (fun i => ((a ++ b) ++ [x])[i]?) = ((a ++ [x]) ++ b).map some := by
  have hl : (a ++ b).length = 161 := by rw [List.length_append, ha, hb]
  have e1 : (List.range' 0 145).map (fun i => ((a ++ b) ++ [x])[i]?) = a.map some := by rw [List.append_assoc]; exact lo_ps_hd ha
  have e2 : ([161] : List Nat).map (fun i => ((a ++ b) ++ [x])[i]?) = [x].map some := by
    show [((a ++ b) ++ [x])[161]?] = [some x]
    rw [List.getElem?_append_right (by rw [hl]; exact Nat.le_refl _), hl]
    rfl
  have e3 : (List.range' 145 16).map (fun i => ((a ++ b) ++ [x])[i]?) = b.map some := by
    rw [← lo_ps_tl (a := a) (b := b) ha hb]
    exact List.map_congr_left (fun i hi => by rw [List.mem_range'_1] at hi; exact List.getElem?_append_left (by omega))
  rw [List.map_append, List.map_append (l₁ := [161]), e1, e2, e3, List.map_append, List.map_append, List.append_assoc]
theorem lz_perm {X : KX} {a b : va_W} {x : Nat × va_E} {A : Nat → Prop} {H0 H : Heap} {locs : List Loc} (ha : a.length = 145) (hb : b.length = 16) (hw : lo_Wd X ((a ++ b) ++ [x]) A H0 H locs) : lo_Wd X ((a ++ [x]) ++ b) A H0 H locs :=
  ⟨lo_P_sub _ (lz_ps ha hb) hw.1, hw.2.1.sub _ (by decide +kernel) (lz_ps ha hb), hw.2.2⟩
theorem lz_set {a nw : va_W} {z y : Nat × va_E} (ha : a.length = 145) : (a ++ [z]).set 145 y ++ nw = a ++ (y :: nw) := by
  rw [List.set_append_right _ _ (by rw [ha]; exact Nat.le_refl _), ha, List.append_assoc]
  rfl
theorem lz_newJ {p : Program} {l : Launch} {e : Env} {R : Room} {s : State} {m : MethodId} {args : Array Value} {below : List Frame} {meth : Method} {c : Code} {H : Heap} {locs : List Loc} {cells slots : Nat} {Q : State → Prop} {cc : ByteArray} {pc nL : Nat} {ls : Array Slot} {rest : List Value} {Ts : List Cond} {own : String} {X : KX} {cJ : ClassId} {ws : va_W} {A : Nat → Prop} {H0 : Heap}
    (E : CallFix p m c cc nL s args Ts own) (hJ : lo_J X cJ s) (hw : lo_Wd X ws A H0 H locs) (harr : (Cond.arrayClass .long).before args s = true) (hcells : cells + 1 ≤ R.cells) (hslots : slots + 1 ≤ R.slots) (hdg : decode cc pc = .ok (.newarray .long, 2))
    (kk : ∀ (q : Nat) (H1 : Heap), lo_Wd X (ws ++ [arJ cJ q 1 (fun _ => 0)]) A H0 H1 locs → W p l e R s m args below meth c H1 locs (cells + 1) (slots + 1) Q (F0 m (pc + 2) ls (.ref q :: rest))) : W p l e R s m args below meth c H locs cells slots Q (F0 m pc ls (.int (iI 1) :: rest)) :=
  va_newa (atype := .long) (ty := .long) E.1 E.2.1 harr rfl hJ.1 hw.1 hw.2.1 hw.2.2.1 hw.2.2.2 (a0 := (1, .inr (.inl (fun _ => 0)))) (fun cA => rfl) (by rw [Int32.lt_iff_toInt_lt, iI_toInt (by omega)]; show ¬ (1 : Int) < 0; omega) (by rw [iI_cl (by omega)]; rfl) (by show 1 * 8 ≤ 536870912; omega) hcells hslots hdg (fun q cA H1 hK1 h1 h2 h3 => by
    have e1 : s.vm.findClass ("[" ++ (FieldType.long).toString) = some cA := (hK1.2 1 (cA, .long) rfl).2
    have e2 : s.vm.findClass ("[" ++ (FieldType.long).toString) = some cJ := (hJ.1.2 0 (cJ, .long) rfl).2
    have e3 : cA = cJ := Option.some.inj (e1.symm.trans e2)
    subst e3
    exact kk q H1 ⟨h1, h2, h3, hw.2.2.2⟩)
def ad0 (h xi xh xr xl xa xc k1 k2 xt a1 a2 a3 : Nat) : Nat → Nat := fun k => match k with
  | 0 => h | 1 => xi | 2 => xh | 3 => xr | 4 => xl | 5 => xa | 6 => xc | 7 => k1 | 8 => k2 | 9 => xt | 10 => a1 | 11 => a2 | _ => a3
set_option maxHeartbeats 2000000 in
set_option maxRecDepth 100000 in
theorem whole_start {p : Program} {e : Env} {s : State} {m : MethodId} {below : List Frame} {meth : Method} {c : Code} (l : Launch) (hflags : l.flags = flags0) {b L : Nat} {xs : Nat → Int32} (hL : L ≤ 3072) (C0 : lw_At p s m meth c b L xs) : W p l e room_1 s m #[Value.ref b] below meth c s.heap [] 0 0 (lw_Z below #[Value.ref b] s) (entryFrame m ([Value.ref b] : List Value).toArray 9) := by
  obtain ⟨hx, hb, hr, hml, hown, hts, hX, hbl, hlocks, hgv⟩ := id C0
  have hst : l.stackTraces = false := by unfold Launch.stackTraces; rw [hflags]; decide +kernel
  have hs : ∀ w ∈ flN, w.before #[Value.ref b] s = true := flat_of_before _ hgv
  obtain ⟨X, cJ, hK, hJ⟩ := ini_K hts hs
  obtain ⟨kS, hV⟩ := ini_Ev hts hs
  have E : CallFix p m c cL_law 9 s #[Value.ref b] wsL_law RL := ⟨hx, hb, hml, hown, fun w h => hts w (wsL_law_in w h)⟩
  have G : LF p l s m meth c b L xs X cJ kS := ⟨E, hr, hlocks, hK, hV.1, hJ, hX, hbl, hst, hL⟩
  have hl := lv_entry ([.ref b]) (n := 9) (Nat.le_of_ble_eq_true rfl)
  rw [lg_entry_eq]
  generalize (lg_sl ([.ref b]) ++ List.replicate (9 - (lg_sl ([.ref b])).length) Slot.unset).toArray = ls at hl ⊢
  have hl : lv_has ls 9 [(0, .ref b)] := hl
  have hw : lo_Wd X [] (fun q => s.heap.size ≤ q) s.heap s.heap [] := ⟨fun k q h => by simp at h, ⟨fun i j p q h => by simp at h, fun k q h => by simp at h⟩, va_S.rf, fun _ h => h⟩
  refine lo_newO E hK hw inlX7 tyX7 tyX7_ok (hts (.classLink RL 8 RX7) (by decide +kernel)) (hts (.instantiable RX7 11) (by decide +kernel)) (hts (.initialized RX7) (by decide +kernel)) (ci := 7) rfl (fs := [.null, .int (iI 0), .null, .null, .null, .int (iI 0), .null, .null, .null, .null, .null]) (fun j hj => match j, hj with | 0, _ => rfl | 1, _ => rfl | 2, _ => rfl | 3, _ => rfl | 4, _ => rfl | 5, _ => rfl | 6, _ => rfl | 7, _ => rfl | 8, _ => rfl | 9, _ => rfl | 10, _ => rfl | j + 11, h => absurd h (by omega)) (Nat.le_of_ble_eq_true rfl) (Nat.le_of_ble_eq_true rfl) dL_law_0 (fun o7 H hw => ?_)
  refine lv_dup E.1 E.2.1 dL_law_3 rfl ?_
  refine lo_callI (q0 := 0) (rest := [.ref o7]) E hK hw hV (kX7_init l X kS o7) (cwI 0 E.2.2.2.2 gL_law_X7_init rfl rfl rfl (hts (.initialized RX7) (by decide +kernel)) (hts (.methodLink RL 142 yX7_init) (by decide +kernel)) (hts (.instanceMethod yX7_init) (by decide +kernel)) rfl (by decide +kernel) ⟨Nat.le_of_ble_eq_true rfl, Nat.le_of_ble_eq_true rfl⟩) rfl hl.1 rfl rfl (Nat.le_of_ble_eq_true rfl) dL_law_4 ⟨Nat.le_of_ble_eq_true rfl, Nat.le_of_ble_eq_true rfl⟩ (fun e1 nw H locs hq hw => ?_)
  obtain ⟨xi, xh, k1, xr, k2, xl, xa, xc, a1, a2, a3, xt, a, b7, s7, t7, e7, f7, g7, c7, R9, qp, qs, qk, qv, qe, qx, qd, q1, q2, q3, qt, ke, ko, G1, G2, G3, hsc, ⟨hqv, -⟩, hen, rfl, rfl⟩ := hq
  have hw : lo_Wd X (clB X (ad0 o7 xi xh xr xl xa xc k1 k2 xt a1 a2 a3) a b7 s7 t7 e7 f7 g7 c7 (Z_0 (zI0 qp qs qk qv qe qx qd q1 q2 q3 qt ke ko) R9 G1 G2 G3)).flatten (fun q => s.heap.size ≤ q) s.heap H locs := hw
  refine lv_astore_n (lv' := [(1, .ref o7), (0, .ref b)]) E.1 E.2.1 dL_law_7 rfl hl (by decide) rfl (fun ls hl => ?_)
  refine lo_newO E hK hw inlX8 tyX8 tyX8_ok (hts (.classLink RL 143 RX8) (by decide +kernel)) (hts (.instantiable RX8 29) (by decide +kernel)) (hts (.initialized RX8) (by decide +kernel)) (ci := 8) rfl (fs := [.int (iI 0), .null, .null, .int (iI 0), .null, .int (iI 0), .null, .null, .null, .int (iI 0), .null, .int (iI 0), .long (iL 0), .long (iL 0), .long (iL 0), .long (iL 0), .int (iI 0), .long (iL 0), .int (iI 0), .int (iI 0), .int (iI 0), .int (iI 0), .int (iI 0), .int (iI 0), .int (iI 0), .int (iI 0), .int (iI 0), .int (iI 0), .int (iI 0)]) (fun j hj => match j, hj with | 0, _ => rfl | 1, _ => rfl | 2, _ => rfl | 3, _ => rfl | 4, _ => rfl | 5, _ => rfl | 6, _ => rfl | 7, _ => rfl | 8, _ => rfl | 9, _ => rfl | 10, _ => rfl | 11, _ => rfl | 12, _ => rfl | 13, _ => rfl | 14, _ => rfl | 15, _ => rfl | 16, _ => rfl | 17, _ => rfl | 18, _ => rfl | 19, _ => rfl | 20, _ => rfl | 21, _ => rfl | 22, _ => rfl | 23, _ => rfl | 24, _ => rfl | 25, _ => rfl | 26, _ => rfl | 27, _ => rfl | 28, _ => rfl | j + 29, h => absurd h (by omega)) (Nat.le_of_ble_eq_true rfl) (Nat.le_of_ble_eq_true rfl) dL_law_8 (fun o8 H hw => ?_)
  refine lv_dup E.1 E.2.1 dL_law_11 rfl ?_
  refine lo_callI (q0 := 145) (rest := [.ref o8]) E hK hw hV (kX8_init l X kS o8) (cwI 0 E.2.2.2.2 gL_law_X8_init rfl rfl rfl (hts (.initialized RX8) (by decide +kernel)) (hts (.methodLink RL 145 yX8_init) (by decide +kernel)) (hts (.instanceMethod yX8_init) (by decide +kernel)) rfl (by decide +kernel) ⟨Nat.le_of_ble_eq_true rfl, Nat.le_of_ble_eq_true rfl⟩) (by rw [List.getElem?_append_right (by rw [clB_n]; exact Nat.le_refl _), clB_n]; rfl) hl.1 rfl rfl (Nat.le_of_ble_eq_true rfl) dL_law_12 ⟨Nat.le_of_ble_eq_true rfl, Nat.le_of_ble_eq_true rfl⟩ (fun e1 nw H locs hq hw => ?_)
  obtain ⟨d, rr, N, hd, hN, rfl, rfl⟩ := hq
  subst hd
  have hw : lo_Wd X ((clB X (ad0 o7 xi xh xr xl xa xc k1 k2 xt a1 a2 a3) a b7 s7 t7 e7 f7 g7 c7 (Z_0 (zI0 qp qs qk qv qe qx qd q1 q2 q3 qt ke ko) R9 G1 G2 G3)).flatten ++ (rfB X d rr (Y_0 N)).flatten) (fun q => s.heap.size ≤ q) s.heap H locs := lo_cast ((lz_set clB_n).trans rfl) hw
  refine lv_astore_n (lv' := [(2, .ref (d 0)), (1, .ref o7), (0, .ref b)]) E.1 E.2.1 dL_law_15 rfl hl (by decide) rfl (fun ls hl => ?_)
  refine lv_iconst (v := iI 1) E.1 E.2.1 dL_law_16 rfl ?_
  refine lz_newJ E hJ hw (hts (.arrayClass .long) (by decide +kernel)) (Nat.le_of_ble_eq_true rfl) (Nat.le_of_ble_eq_true rfl) dL_law_17 (fun oa H hw => ?_)
  have hw := lz_perm clB_n rfB_n hw
  refine lv_astore_n (lv' := [(3, .ref oa), (2, .ref (d 0)), (1, .ref o7), (0, .ref b)]) E.1 E.2.1 dL_law_19 rfl hl (by decide) rfl (fun ls hl => ?_)
  refine lv_iconst (v := iI 0) E.1 E.2.1 dL_law_20 rfl ?_
  refine lv_istore (lv' := LVi b (ad0 o7 xi xh xr xl xa xc k1 k2 xt a1 a2 a3) d oa 0) E.1 E.2.1 dL_law_21 hl (by decide) rfl (fun ls hl => ?_)
  refine W.widen (k := 601024 - 10 * 512) (n := 7293034 - 60 * 512) (by omega) (by omega) ?_
  exact lz_loop G 512 0 (by omega) (by omega) (by omega) (by omega) (Z_0 (zI0 qp qs qk qv qe qx qd q1 q2 q3 qt ke ko) R9 G1 G2 G3) (fun _ => 0) (Y_0 N) H locs ls (SIM_0 hsc hqv hen hN) hw hl
