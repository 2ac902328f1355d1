/-! the law from its entry -/
theorem iI_and26 (x : Int) : iI x &&& iI 67108863 = iI (x % 67108864) := by
  apply Int32.toBitVec_inj.mp
  rw [Int32.toBitVec_and]
  apply BitVec.eq_of_toNat_eq
  rw [BitVec.toNat_and]
  show (BitVec.ofInt 32 x).toNat &&& 67108863 = (BitVec.ofInt 32 (x % 67108864)).toNat
  rw [BitVec.toNat_ofInt, BitVec.toNat_ofInt]
  show (x % 4294967296).toNat &&& (2 ^ 26 - 1) = (x % 67108864 % 4294967296).toNat
  rw [Nat.and_two_pow_sub_one_eq_mod]
  omega
def LF (p : Program) (l : Launch) (s : State) (m : MethodId) (meth : Method) (c : Code) (X : KX) (kS : Nat → Nat) : Prop :=
  CallFix p m c cL_law 4 s #[Value.ref (kS 21)] wsL_law RL ∧ meth.sig.returnType = ret ∧ meth.locks = false ∧ lo_K X s ∧ lo_Ev kS (fun q => s.heap.size ≤ q) s s.heap ∧ l.stackTraces = false ∧ ∀ w ∈ lw_tbl, w.before #[Value.ref (kS 21)] s = true
abbrev LV (kS : Nat → Nat) (D : AD9) (k : Int) : List (Nat × Value) := [(0, .ref (kS 21)), (1, .ref (D.1 0)), (2, .int (iI k))]
section LAW
variable {p : Program} {l : Launch} {e : Env} {s : State} {m : MethodId} {below : List Frame} {meth : Method} {c : Code} {X : KX} {kS : Nat → Nat} {D : AD9}
/-- n rounds are left -/
def GO (p : Program) (l : Launch) (e : Env) (s : State) (m : MethodId) (below : List Frame) (meth : Method) (c : Code) (X : KX) (kS : Nat → Nat) (D : AD9) (n : Nat) (k : Int) (pc : Nat) : Prop :=
  ∀ (Z : CZ) (cn : Int) (H : Heap) (locs : List Loc) (ls : Array Slot), CV cn Z → cn ≤ 3 * (22 - (n : Int)) → lo_Wd X (wC X D Z) (fun q => s.heap.size ≤ q) s.heap H locs → lv_has ls 4 (LV kS D k) →
    W p l e room_1 s m #[Value.ref (kS 21)] below meth c H locs (600086 - 6 * n) (7301441 - 36 * n) (lw_Z below #[Value.ref (kS 21)] s) (F0 m pc ls [])
theorem lz_end (G : LF p l s m meth c X kS) {n : Nat} {k : Int} : GO p l e s m below meth c X kS D n k 100 := by
  intro Z cn H locs ls hC hcn hw hl
  have E := G.1
  refine lv_iconst (v := iI 1) E.1 E.2.1 dL_law_100 rfl ?_
  refine va_forget (fun q hq => hw.2.2.1.2.2 q hq) ?_
  refine W.widen (k := 600086) (n := 7301441) (by omega) (by omega) ?_
  exact lw_ret E.1 E.2.1 G.2.1 G.2.2.1 dL_law_101
theorem lz_inc (G : LF p l s m meth c X kS) {n : Nat} {k : Int} (ih : GO p l e s m below meth c X kS D n (k + 2) 42) : GO p l e s m below meth c X kS D n k 94 := by
  intro Z cn H locs ls hC hcn hw hl
  have E := G.1
  refine lo_iinc (lv' := [(2, .int (iI (k + 2))), (0, .ref (kS 21)), (1, .ref (D.1 0))]) E dL_law_94 hl (k := 2) rfl (by decide) rfl (fun ls hl => ?_)
  refine lv_goto (tgt := 42) E.1 E.2.1 dL_law_97 (by decide) ?_
  exact ih Z cn H locs ls hC hcn hw (lv_sub hl [1, 2, 0] rfl)
set_option maxHeartbeats 2000000 in
set_option maxRecDepth 100000 in
theorem lz_body (G : LF p l s m meth c X kS) {n : Nat} {k : Int} (hn : n < 22) (hk : 0 ≤ k ∧ k ≤ 44) (hinc : GO p l e s m below meth c X kS D n k 94) : GO p l e s m below meth c X kS D (n + 1) k 48 := by
  intro Z cn H locs ls hC hcn hw hl
  have E := G.1
  have Ex := E.1
  have Eb := E.2.1
  have hK := G.2.2.2.1
  have hV := G.2.2.2.2.1
  have hts := G.2.2.2.2.2.2
  refine lv_aload_n Ex Eb dL_law_48 rfl (lv_at hl 1 rfl) ?_
  refine lv_aload_n Ex Eb dL_law_49 rfl (lv_at hl 0 rfl) ?_
  refine lv_iload_n Ex Eb dL_law_50 rfl (lv_at hl 2 rfl) ?_
  refine lw_cS (rest := []) E hK hV hw (kL_act l X kS G.2.2.2.2.2.1 D Z cn k hC (by omega)) (cwS 3 E.2.2.2.2 gL_law_L_act rfl rfl rfl (by decide +kernel) ⟨Nat.le_of_ble_eq_true rfl, Nat.le_of_ble_eq_true rfl⟩) hl.1 rfl rfl (Nat.le_of_ble_eq_true rfl) dL_law_51 ⟨by show 600086 - 6 * (n + 1) + 6 ≤ 600086; omega, by show 7301441 - 36 * (n + 1) + 36 ≤ 7301441; omega⟩ (fun t H locs hCt hw => ?_)
  refine W.widen (k := 600086 - 6 * n) (n := 7301441 - 36 * n) (by omega) (by omega) ?_
  have hw : lo_Wd X (wC X D (zUA t (zA t))) (fun q => s.heap.size ≤ q) s.heap H locs := hw
  have hPI : PI (zP t) := hCt.1
  obtain ⟨hn0, hn1⟩ := hPI.1
  refine W.eq (g2 := F0 m 54 ls []) rfl ?_
  refine lv_aload_n Ex Eb dL_law_54 rfl (lv_at hl 1 rfl) ?_
  refine lw_cS (rest := []) E hK hV hw (kL_isSound l X kS D t (zA t) hPI (hCt.2.2.2.2.mono (by omega))) (cwS 1 E.2.2.2.2 gL_law_L_isSound rfl rfl rfl (by decide +kernel) ⟨Nat.le_of_ble_eq_true rfl, Nat.le_of_ble_eq_true rfl⟩) hl.1 rfl rfl (Nat.le_of_ble_eq_true rfl) dL_law_55 ⟨by show 600086 - 6 * n + 0 ≤ 600086; omega, by show 7301441 - 36 * n + 0 ≤ 7301441; omega⟩ (fun A1 H locs _ hw => ?_)
  have hw : lo_Wd X (wC X D (zUA t A1)) (fun q => s.heap.size ≤ q) s.heap H locs := hw
  refine W.eq (g2 := F0 m 58 ls [.int (iI 1)]) rfl ?_
  refine lo_if_ne (tgt := 63) E dL_law_58 (by decide) (by omega) (fun _ => ?_) (fun c9 => absurd c9 (by omega))
  refine lv_aload_n Ex Eb dL_law_63 rfl (lv_at hl 1 rfl) ?_
  refine lw_c7 (rest := []) E hK hV hw (qX7_loanCount l X kS D (zUA t A1) hPI) (cwV 0 E.2.2.2.2 gL_law_X7_loanCount rfl rfl rfl (by decide +kernel) ⟨Nat.le_of_ble_eq_true rfl, Nat.le_of_ble_eq_true rfl⟩) hl.1 rfl rfl (Nat.le_of_ble_eq_true rfl) dL_law_64 ⟨by show 600086 - 6 * n + 0 + 0 ≤ 600086; omega, by show 7301441 - 36 * n + 0 + 0 ≤ 7301441; omega⟩ (fun A2 H locs _ hw => ?_)
  have hw : lo_Wd X (wC X D (zUA t A2)) (fun q => s.heap.size ≤ q) s.heap H locs := hw
  refine W.eq (g2 := F0 m 67 ls [.int (iI (Pn (zP t)))]) rfl ?_
  refine lv_istore_n (lv' := [(3, .int (iI (Pn (zP t)))), (0, .ref (kS 21)), (1, .ref (D.1 0)), (2, .int (iI k))]) Ex Eb dL_law_67 rfl hl (by decide) rfl (fun ls hl => ?_)
  refine lv_iload_n Ex Eb dL_law_68 rfl (lv_at hl 0 rfl) ?_
  have hgo : ∀ (A : Nat → Int) (H : Heap) (locs : List Loc) (cc ss : Nat), lo_Wd X (wC X D (zUA t A)) (fun q => s.heap.size ≤ q) s.heap H locs → cc ≤ 600086 - 6 * n → ss ≤ 7301441 - 36 * n → W p l e room_1 s m #[Value.ref (kS 21)] below meth c H locs cc ss (lw_Z below #[Value.ref (kS 21)] s) (F0 m 94 ls []) := fun A H locs cc ss hw h1 h2 => by
    refine W.widen (k := 600086 - 6 * n) (n := 7301441 - 36 * n) h1 h2 ?_
    exact hinc (zUA t A) (cn + 3) H locs ls (CV.ahead A hCt) (by omega) hw (lv_sub hl [1, 2, 3] rfl)
  refine lo_if_le (tgt := 94) E dL_law_69 (by decide) (by omega) (fun _ => hgo A2 H locs _ _ hw (by omega) (by omega)) (fun hp => ?_)
  refine lv_aload_n Ex Eb dL_law_72 rfl (lv_at hl 2 rfl) ?_
  refine lv_aload_n Ex Eb dL_law_73 rfl (lv_at hl 1 rfl) ?_
  refine lv_iload_n Ex Eb dL_law_74 rfl (lv_at hl 3 rfl) ?_
  refine lo_callSE (rest := [.ref (D.1 0)]) E hK hw hV (kL_cell l X kS k (by omega)) (cwS 2 E.2.2.2.2 gL_law_L_cell rfl rfl rfl (by decide +kernel) ⟨Nat.le_of_ble_eq_true rfl, Nat.le_of_ble_eq_true rfl⟩) [] rfl rfl hl.1 rfl rfl (Nat.le_of_ble_eq_true rfl) dL_law_75 ⟨by show 600086 - 6 * n + 0 + 0 + 0 ≤ 600086; omega, by show 7301441 - 36 * n + 0 + 0 + 0 ≤ 7301441; omega⟩ (fun v w1 H locs hq hw => ?_)
  obtain ⟨z1, hz1, rfl, rfl⟩ := hq
  have hw : lo_Wd X (wC X D (zUA t A2)) (fun q => s.heap.size ≤ q) s.heap H locs := hw
  refine W.eq (g2 := F0 m 78 ls [.int (iI z1), .ref (D.1 0)]) rfl ?_
  refine lv_iconst (v := iI 5) Ex Eb dL_law_78 rfl ?_
  refine lw_ishr E dL_law_79 (fun z2 hz2 => ?_)
  refine lo_ldcw (z := 67108863) E (hts (.constant RL 264 67108863) (by decide +kernel)) dL_law_80 rfl ?_
  refine lv_iand Ex Eb dL_law_83 ?_
  rw [iI_and26]
  refine lv_iload_n Ex Eb dL_law_84 rfl (lv_at hl 0 rfl) ?_
  refine lo_irem E dL_law_85 (by omega) (by omega) ?_
  refine lo_topi (fun i hi => ?_)
  have hi0 : 0 ≤ i := by rw [hi]; exact Int.emod_nonneg _ (by omega)
  have hi1 : i < Pn (zP t) := by rw [hi]; exact Int.emod_lt_of_pos _ (by omega)
  refine lw_cS (rest := []) E hK hV hw (kL_isPaid l X kS D t A2 i hPI ⟨hi0, hi1⟩) (cwS 2 E.2.2.2.2 gL_law_L_isPaid rfl rfl rfl (by decide +kernel) ⟨Nat.le_of_ble_eq_true rfl, Nat.le_of_ble_eq_true rfl⟩) hl.1 rfl rfl (Nat.le_of_ble_eq_true rfl) dL_law_86 ⟨by show 600086 - 6 * n + 0 + 0 + 0 + 0 ≤ 600086; omega, by show 7301441 - 36 * n + 0 + 0 + 0 + 0 ≤ 7301441; omega⟩ (fun A3 H locs _ hw => ?_)
  have hw : lo_Wd X (wC X D (zUA t A3)) (fun q => s.heap.size ≤ q) s.heap H locs := hw
  refine W.eq (g2 := F0 m 89 ls [.int (iI 1)]) rfl ?_
  refine lo_if_ne (tgt := 94) E dL_law_89 (by decide) (by omega) (fun _ => ?_) (fun c9 => absurd c9 (by omega))
  exact hgo A3 H locs _ _ hw (by omega) (by omega)
theorem lz_loop (G : LF p l s m meth c X kS) : ∀ (n : Nat) (k : Int), n ≤ 22 → k = 44 - 2 * (n : Int) → GO p l e s m below meth c X kS D n k 42
  | 0, k, _, hk => by
    intro Z cn H locs ls hC hcn hw hl
    have E := G.1
    refine lv_iload_n E.1 E.2.1 dL_law_42 rfl (lv_at hl 2 rfl) ?_
    refine lv_bipush (v := iI 44) E.1 E.2.1 dL_law_43 rfl ?_
    refine lo_icmp_ge (tgt := 100) E dL_law_45 (by decide) (by omega) (by omega) (fun _ => ?_) (fun c9 => absurd c9 (by omega))
    exact lz_end G Z cn H locs ls hC hcn hw hl
  | n + 1, k, h, hk => by
    intro Z cn H locs ls hC hcn hw hl
    have E := G.1
    refine lv_iload_n E.1 E.2.1 dL_law_42 rfl (lv_at hl 2 rfl) ?_
    refine lv_bipush (v := iI 44) E.1 E.2.1 dL_law_43 rfl ?_
    refine lo_icmp_ge (tgt := 100) E dL_law_45 (by decide) (by omega) (by omega) (fun c9 => absurd c9 (by omega)) (fun _ => ?_)
    exact lz_body G (by omega) (by omega) (lz_inc G (lz_loop G n (k + 2) (by omega) (by omega))) Z cn H locs ls hC hcn hw hl
end LAW
/-! the start -/
def zI0 (qp qs qk qv qe qx qd q1 q2 q3 qt ke ko : Int) : Nat → Int := fun k => match k with
  | 5 => qe | 6 => qx | 7 => qd | 8 => q1 | 9 => q2 | 10 => q3 | 11 => qt | 12 => ke | 13 => ko | 14 => 87 | 15 => qp | 16 => qs | 17 => qk | 18 => qv | _ => 0
abbrev P_0 : PT := (0, fun _ _ => 0, 0, 0, fun _ => 0, fun _ => 0, fun _ => 0)
abbrev Z_0 (I : Nat → Int) (R9 : PT) (G1 G2 G3 : Nat → Int) : CZ := (I, tx20, fun _ => 0, cpP P_0 R9, P_0, R9, fun _ => P_0, fun _ => 0, fun _ => 0, fun j => if j = 0 then G1 else if j = 1 then G2 else G3)
theorem Z_0_CV {qp qs qk qv qe qx qd q1 q2 q3 qt ke ko : Int} {R9 : PT} {G1 G2 G3 f g h : Nat → Int} (hs : SCO tx20 87 (scS tx20 87 f g h) ke ko R9) : CV 1 (Z_0 (zI0 qp qs qk qv qe qx qd q1 q2 q3 qt ke ko) R9 G1 G2 G3) ∧ Pn (cpP P_0 R9) = 3 ∧ PI R9 := by
  obtain ⟨h1, h2, h3⟩ := first_P hs
  refine ⟨⟨cpP_PI h1, ⟨Int.le_refl 0, by show (0:Int) < 8; omega⟩, ⟨Int.le_refl 0, by show (0:Int) ≤ 8; omega⟩, by omega, fun i hi => ?_⟩, h2, h1⟩
  have hi : (i : Int) < Pn R9 := hi
  show 0 ≤ mixL (PL R9) (PL P_0) (Pn R9).toNat i 8 ∧ mixL (PL R9) (PL P_0) (Pn R9).toNat i 8 ≤ 1
  have e : mixL (PL R9) (PL P_0) (Pn R9).toNat i = PL R9 i := if_pos (by omega)
  rw [e]
  exact h3 i hi
def ad0 (h xi xh xr xl xa xc k1 k2 xt a1 a2 a3 : Nat) : Nat → Nat := fun k => match k with
  | 0 => h | 1 => xi | 2 => xh | 3 => xr | 4 => xl | 5 => xa | 6 => xc | 7 => k1 | 8 => k2 | 9 => xt | 10 => a1 | 11 => a2 | _ => a3
set_option maxHeartbeats 2000000 in
set_option maxRecDepth 100000 in
theorem lz_start {p : Program} {e : Env} {s : State} {m : MethodId} {below : List Frame} {meth : Method} {c : Code} {l : Launch} {X : KX} {kS : Nat → Nat} (G : LF p l s m meth c X kS) (hVI : lo_EvI kS (fun q => s.heap.size ≤ q) s s.heap) {ls : Array Slot} (hl : lv_has ls 4 [(0, .ref (kS 21))]) : W p l e room_1 s m #[Value.ref (kS 21)] below meth c s.heap [] 0 0 (lw_Z below #[Value.ref (kS 21)] s) (F0 m 0 ls []) := by
  have E := G.1
  have Ex := E.1
  have Eb := E.2.1
  have hK := G.2.2.2.1
  have hV := G.2.2.2.2.1
  have hts := G.2.2.2.2.2.2
  have hw : lo_Wd X [] (fun q => s.heap.size ≤ q) s.heap s.heap [] := ⟨fun k q h => by simp at h, ⟨fun i j p q h => by simp at h, fun k q h => by simp at h⟩, va_S.rf, fun _ h => h⟩
  refine lo_newO E hK hw inlX7 tyX7 tyX7_ok (hts (.classLink RL 20 RX7) (by decide +kernel)) (hts (.instantiable RX7 11) (by decide +kernel)) (hts (.initialized RX7) (by decide +kernel)) (ci := 7) rfl (fs := [.null, .int (iI 0), .null, .null, .null, .int (iI 0), .null, .null, .null, .null, .null]) (fun j hj => match j, hj with | 0, _ => rfl | 1, _ => rfl | 2, _ => rfl | 3, _ => rfl | 4, _ => rfl | 5, _ => rfl | 6, _ => rfl | 7, _ => rfl | 8, _ => rfl | 9, _ => rfl | 10, _ => rfl | j + 11, h => absurd h (by omega)) (Nat.le_of_ble_eq_true rfl) (Nat.le_of_ble_eq_true rfl) dL_law_0 (fun o7 H hw => ?_)
  refine lv_dup Ex Eb dL_law_3 rfl ?_
  refine lo_callI (q0 := 0) (rest := [.ref o7]) E hK hw hVI (kX7_init l X kS o7) (cwI 0 E.2.2.2.2 gL_law_X7_init rfl rfl rfl (hts (.initialized RX7) (by decide +kernel)) (hts (.methodLink RL 248 yX7_init) (by decide +kernel)) (hts (.instanceMethod yX7_init) (by decide +kernel)) rfl (by decide +kernel) ⟨Nat.le_of_ble_eq_true rfl, Nat.le_of_ble_eq_true rfl⟩) rfl hl.1 rfl rfl (Nat.le_of_ble_eq_true rfl) dL_law_4 ⟨Nat.le_of_ble_eq_true rfl, Nat.le_of_ble_eq_true rfl⟩ (fun e1 nw H locs hq hw => ?_)
  obtain ⟨xi, xh, k1, xr, k2, xl, xa, xc, a1, a2, a3, xt, a, b7, s7, t7, e7, f7, g7, c7, R9, qp, qs, qk, qv, qe, qx, qd, q1, q2, q3, qt, ke, ko, G1, G2, G3, hsc, ⟨hqv, -⟩, hen, rfl, rfl⟩ := hq
  obtain ⟨hCV, hn3, hR9⟩ := Z_0_CV (qp := qp) (qs := qs) (qk := qk) (qv := qv) (qe := qe) (qx := qx) (qd := qd) (q1 := q1) (q2 := q2) (q3 := q3) (qt := qt) (G1 := G1) (G2 := G2) (G3 := G3) hsc
  have hw2 : lo_Wd X (wC X (ad0 o7 xi xh xr xl xa xc k1 k2 xt a1 a2 a3, a, b7, s7, t7, e7, f7, g7, c7) (Z_0 (zI0 qp qs qk qv qe qx qd q1 q2 q3 qt ke ko) R9 G1 G2 G3)) (fun q => s.heap.size ≤ q) s.heap H locs := hw
  clear hw
  have ho7 : o7 = ((ad0 o7 xi xh xr xl xa xc k1 k2 xt a1 a2 a3, a, b7, s7, t7, e7, f7, g7, c7) : AD9).1 0 := rfl
  generalize hD : ((ad0 o7 xi xh xr xl xa xc k1 k2 xt a1 a2 a3, a, b7, s7, t7, e7, f7, g7, c7) : AD9) = D at hw2 ho7
  clear hD
  have hI0 : zI (Z_0 (zI0 qp qs qk qv qe qx qd q1 q2 q3 qt ke ko) R9 G1 G2 G3) 0 = 0 := rfl
  have hI18 : zI (Z_0 (zI0 qp qs qk qv qe qx qd q1 q2 q3 qt ke ko) R9 G1 G2 G3) 18 = qv := rfl
  have hzT : zT (Z_0 (zI0 qp qs qk qv qe qx qd q1 q2 q3 qt ke ko) R9 G1 G2 G3) = tx20 := rfl
  have hzR : zR (Z_0 (zI0 qp qs qk qv qe qx qd q1 q2 q3 qt ke ko) R9 G1 G2 G3) = R9 := rfl
  have hzP : Pn (zP (Z_0 (zI0 qp qs qk qv qe qx qd q1 q2 q3 qt ke ko) R9 G1 G2 G3)) = 3 := hn3
  generalize hZ : Z_0 (zI0 qp qs qk qv qe qx qd q1 q2 q3 qt ke ko) R9 G1 G2 G3 = Z at hw2 hCV hI0 hI18 hzT hzR hzP
  clear hZ
  subst o7
  have hw := hw2
  clear hw2
  have hPI := hCV.1
  refine W.eq (g2 := F0 m 7 ls [.ref (D.1 0)]) rfl ?_
  refine lv_astore_n (lv' := [(1, .ref (D.1 0)), (0, .ref (kS 21))]) Ex Eb dL_law_7 rfl hl (by decide) rfl (fun ls hl => ?_)
  have hw : lo_Wd X (wC X D (zUA Z (zA Z))) (fun q => s.heap.size ≤ q) s.heap H locs := hw
  refine lv_aload_n Ex Eb dL_law_8 rfl (lv_at hl 0 rfl) ?_
  refine lw_cS (rest := []) E hK hV hw (kL_isSound l X kS D Z (zA Z) hPI (hCV.2.2.2.2.mono (by omega))) (cwS 1 E.2.2.2.2 gL_law_L_isSound rfl rfl rfl (by decide +kernel) ⟨Nat.le_of_ble_eq_true rfl, Nat.le_of_ble_eq_true rfl⟩) hl.1 rfl rfl (Nat.le_of_ble_eq_true rfl) dL_law_9 ⟨Nat.le_of_ble_eq_true rfl, Nat.le_of_ble_eq_true rfl⟩ (fun A1 H locs _ hw => ?_)
  have hw : lo_Wd X (wC X D (zUA Z A1)) (fun q => s.heap.size ≤ q) s.heap H locs := hw
  refine W.eq (g2 := F0 m 12 ls [.int (iI 1)]) rfl ?_
  refine lo_if_eq (tgt := 38) E dL_law_12 (by decide) (by omega) (fun c9 => absurd c9 (by omega)) (fun _ => ?_)
  refine lv_aload_n Ex Eb dL_law_15 rfl (lv_at hl 0 rfl) ?_
  refine lv_iconst (v := iI 0) Ex Eb dL_law_16 rfl ?_
  refine lw_cS (rest := []) E hK hV hw (kL_isPaid l X kS D Z A1 0 hPI (by omega)) (cwS 2 E.2.2.2.2 gL_law_L_isPaid rfl rfl rfl (by decide +kernel) ⟨Nat.le_of_ble_eq_true rfl, Nat.le_of_ble_eq_true rfl⟩) hl.1 rfl rfl (Nat.le_of_ble_eq_true rfl) dL_law_17 ⟨Nat.le_of_ble_eq_true rfl, Nat.le_of_ble_eq_true rfl⟩ (fun A2 H locs _ hw => ?_)
  have hw : lo_Wd X (wC X D (zUA Z A2)) (fun q => s.heap.size ≤ q) s.heap H locs := hw
  refine W.eq (g2 := F0 m 20 ls [.int (iI 1)]) rfl ?_
  refine lo_if_eq (tgt := 38) E dL_law_20 (by decide) (by omega) (fun c9 => absurd c9 (by omega)) (fun _ => ?_)
  refine lv_aload_n Ex Eb dL_law_23 rfl (lv_at hl 0 rfl) ?_
  refine lv_iconst (v := iI 1) Ex Eb dL_law_24 rfl ?_
  refine lw_cS (rest := []) E hK hV hw (kL_isPaid l X kS D Z A2 1 hPI (by omega)) (cwS 2 E.2.2.2.2 gL_law_L_isPaid rfl rfl rfl (by decide +kernel) ⟨Nat.le_of_ble_eq_true rfl, Nat.le_of_ble_eq_true rfl⟩) hl.1 rfl rfl (Nat.le_of_ble_eq_true rfl) dL_law_25 ⟨Nat.le_of_ble_eq_true rfl, Nat.le_of_ble_eq_true rfl⟩ (fun A3 H locs _ hw => ?_)
  have hw : lo_Wd X (wC X D (zUA Z A3)) (fun q => s.heap.size ≤ q) s.heap H locs := hw
  refine W.eq (g2 := F0 m 28 ls [.int (iI 1)]) rfl ?_
  refine lo_if_eq (tgt := 38) E dL_law_28 (by decide) (by omega) (fun c9 => absurd c9 (by omega)) (fun _ => ?_)
  refine lv_aload_n Ex Eb dL_law_31 rfl (lv_at hl 0 rfl) ?_
  refine lw_cS (rest := []) E hK hV hw (kL_began l X kS D (zUA Z A3) 1 (CV.ahead A3 hCV) hI0 (by show ∀ k : Nat, 0 ≤ zT Z k ∧ zT Z k ≤ 255; rw [hzT]; exact tx20_r) (by show 0 ≤ zI Z 18 ∧ zI Z 18 ≤ 9999999; omega) (by show PI (zR Z); rw [hzR]; exact hR9)) (cwS 1 E.2.2.2.2 gL_law_L_began rfl rfl rfl (by decide +kernel) ⟨Nat.le_of_ble_eq_true rfl, Nat.le_of_ble_eq_true rfl⟩) hl.1 rfl rfl (Nat.le_of_ble_eq_true rfl) dL_law_32 ⟨Nat.le_of_ble_eq_true rfl, Nat.le_of_ble_eq_true rfl⟩ (fun t H locs hCt hw => ?_)
  have hw : lo_Wd X (wC X D t) (fun q => s.heap.size ≤ q) s.heap H locs := hw
  refine W.eq (g2 := F0 m 35 ls [.int (iI 0)]) rfl ?_
  refine lo_if_eq (tgt := 40) E dL_law_35 (by decide) (by omega) (fun _ => ?_) (fun c9 => absurd rfl c9)
  refine lv_iconst (v := iI 0) Ex Eb dL_law_40 rfl ?_
  refine lv_istore_n (lv' := [(2, .int (iI 0)), (1, .ref (D.1 0)), (0, .ref (kS 21))]) Ex Eb dL_law_41 rfl hl (by decide) rfl (fun ls hl => ?_)
  refine W.widen (k := 600086 - 6 * 22) (n := 7301441 - 36 * 22) (by omega) (by omega) ?_
  exact lz_loop G 22 0 (by omega) (by omega) t 0 H locs ls hCt (by omega) hw (lv_sub hl [2, 1, 0] rfl)
/-- from the entry, for every script of at most 260 ints, the law comes to its end with true -/
theorem whole_start {p : Program} {e : Env} {s : State} {m : MethodId} {below : List Frame} {meth : Method} {c : Code} (l : Launch) (hflags : l.flags = flags0) {b L : Nat} {xs : Nat → Int32} (hL : L ≤ 260) (C0 : lw_At p s m meth c b L xs) : W p l e room_1 s m #[Value.ref b] below meth c s.heap [] 0 0 (lw_Z below #[Value.ref b] s) (entryFrame m ([Value.ref b] : List Value).toArray 4) := by
  obtain ⟨hx, hb, hr, hml, hown, hts, hX, hbl, hlocks, hgv⟩ := id C0
  have hst : l.stackTraces = false := by unfold Launch.stackTraces; rw [hflags]; decide +kernel
  have hs : ∀ w ∈ flN, w.before #[Value.ref b] s = true := flat_of_before _ hgv
  obtain ⟨X, hK⟩ := ini_K hts hs
  obtain ⟨kS, hkb, hVI⟩ := ini_Ev hL hX hbl hts hs
  subst hkb
  have E : CallFix p m c cL_law 4 s #[Value.ref (kS 21)] wsL_law RL := ⟨hx, hb, hml, hown, fun w h => hts w (wsL_law_in w h)⟩
  have G : LF p l s m meth c X kS := ⟨E, hr, hlocks, hK, hVI.1, hst, hts⟩
  have hl := lv_entry ([.ref (kS 21)]) (n := 4) (Nat.le_of_ble_eq_true rfl)
  rw [lg_entry_eq]
  generalize (lg_sl ([.ref (kS 21)]) ++ List.replicate (4 - (lg_sl ([.ref (kS 21)])).length) Slot.unset).toArray = ls at hl ⊢
  have hl : lv_has ls 4 [(0, .ref (kS 21))] := hl
  exact lz_start G hVI hl
