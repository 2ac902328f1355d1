/-! the law's walk: from a call to the next -/
abbrev LVi (b : Nat) (ad d : Nat → Nat) (oa : Nat) (i : Int) : List (Nat × Value) := [(4, .int (iI i)), (3, .ref oa), (2, .ref (d 0)), (1, .ref (ad 0)), (0, .ref b)]
def GO (p : Program) (l : Launch) (e : Env) (s : State) (m : MethodId) (below : List Frame) (meth : Method) (c : Code) (b : Nat) (X : KX) (cJ : ClassId) (ad pa pb qa qb ra rb : Nat → Nat) (ha hb : Nat → Nat → Nat) (d rr : Nat → Nat) (oa : Nat) (i : Int) (n pc : Nat) : Prop :=
  ∀ (Z : CZ) (g : Nat → Int64) (Y : RZ) (H : Heap) (locs : List Loc) (ls : Array Slot), SIM Z Y → lo_Wd X (W3 X cJ ad pa pb qa qb ra rb ha hb d rr oa Z g Y) (fun q => s.heap.size ≤ q) s.heap H locs → lv_has ls 9 (LVi b ad d oa i) → W p l e room_1 s m #[Value.ref b] below meth c H locs (601024 - 10 * n) (7293034 - 60 * n) (lw_Z below #[Value.ref b] s) (F0 m pc ls [])
def T_thr (pc : Nat) : Prop := decode cL_law pc = .ok (.istore 6, 2) ∧ decode cL_law (pc + 2) = .ok (.aload_n 2, 1) ∧ decode cL_law (pc + 3) = .ok (.invokevirtual 157, 3) ∧ decode cL_law (pc + 6) = .ok (.iload 5, 2) ∧ decode cL_law (pc + 8) = .ok (.if_icmp .eq 5, 3) ∧ decode cL_law (pc + 13) = .ok (.iload 5, 2)
def T_int (pc : Nat) : Prop := decode cL_law (pc + 15) = .ok (.ifCond .ne 15, 3) ∧ decode cL_law (pc + 18) = .ok (.aload_n 3, 1) ∧ decode cL_law (pc + 19) = .ok (.iconst 0, 1) ∧ decode cL_law (pc + 20) = .ok (.laload, 1) ∧ decode cL_law (pc + 21) = .ok (.iload 6, 2) ∧ decode cL_law (pc + 23) = .ok (.i2l, 1) ∧ decode cL_law (pc + 24) = .ok (.lcmp, 1) ∧ decode cL_law (pc + 25) = .ok (.ifCond .eq 5, 3)
def T_boo (pc : Nat) : Prop := decode cL_law (pc + 15) = .ok (.ifCond .ne 22, 3) ∧ decode cL_law (pc + 18) = .ok (.aload_n 3, 1) ∧ decode cL_law (pc + 19) = .ok (.iconst 0, 1) ∧ decode cL_law (pc + 20) = .ok (.laload, 1) ∧ decode cL_law (pc + 21) = .ok (.iload 6, 2) ∧ decode cL_law (pc + 23) = .ok (.ifCond .eq 7, 3) ∧ decode cL_law (pc + 26) = .ok (.lconst 1, 1) ∧ decode cL_law (pc + 27) = .ok (.goto 4, 3) ∧ decode cL_law (pc + 30) = .ok (.lconst 0, 1) ∧ decode cL_law (pc + 31) = .ok (.lcmp, 1) ∧ decode cL_law (pc + 32) = .ok (.ifCond .eq 5, 3)
theorem lz_f2d_num : ∀ a, a < 7 → ∀ b, b < 7 → 0 < b → vf_n64 (FP.f2d (FP.fdiv (FP.i2f (Int32.ofNat a)) (FP.i2f (Int32.ofNat b)))) := by unfold vf_n64; decide +kernel
theorem lz_f2d_0 : vf_n64 (FP.f2d FP.fconst0) := by unfold vf_n64; decide +kernel
theorem lz_iN {a : Int} (h : 0 ≤ a) : iI a = Int32.ofNat a.toNat := by
  symm
  rw [← Int32.ofInt_eq_ofNat]
  show Int32.ofInt _ = Int32.ofInt a
  rw [show ((a.toNat : Nat) : Int) = a by omega]
theorem lz_f2d {Z Z9 : CZ} {zz : UInt32} (hP : PI (zP Z)) (h : F7_closedShare Z zz Z9) : vf_n64 (FP.f2d zz) := by
  obtain ⟨z, f, rfl, -⟩ := h
  have hn := hP.1
  have hc0 := cnt_0 (PL (zP Z)) (Pn (zP Z)).toNat
  have hcm := cnt_m (PL (zP Z)) (Pn (zP Z)).toNat
  rcases f with ⟨-, rfl⟩ | ⟨h0, rfl⟩
  · exact lz_f2d_0
  · have q := lz_f2d_num (Pn (zP Z) - cnt (PL (zP Z)) (Pn (zP Z)).toNat).toNat (by omega) (Pn (zP Z)).toNat (by omega) (by omega)
    rw [lz_iN (by omega), lz_iN (by omega)]
    exact q
theorem lz_cmp (x : Int64) : lg_cmp x x = 0 := by simp [lg_cmp, Int64.lt_iff_toInt_lt]
section LAW2
variable {p : Program} {l : Launch} {e : Env} {s : State} {m : MethodId} {below : List Frame} {meth : Method} {c : Code} {H : Heap} {locs : List Loc} {cells slots : Nat}
variable {pc n : Nat} {i : Int} {ls : Array Slot} {X : KX} {cJ : ClassId} {kS : Nat → Nat} {b L : Nat} {xs : Nat → Int32}
variable {ad pa pb qa qb ra rb : Nat → Nat} {ha hb : Nat → Nat → Nat} {d rr : Nat → Nat} {oa : Nat} {Z : CZ} {g : Nat → Int64} {Y : RZ}
/-- on to the loop's end -/
theorem lz_on (k : GO p l e s m below meth c b X cJ ad pa pb qa qb ra rb ha hb d rr oa i n 3317) (hS : SIM Z Y) (hw : lo_Wd X (W3 X cJ ad pa pb qa qb ra rb ha hb d rr oa Z g Y) (fun q => s.heap.size ≤ q) s.heap H locs) (hl : lv_has ls 9 (LVi b ad d oa i)) (hc : cells ≤ 601024 - 10 * n) (hs : slots ≤ 7293034 - 60 * n) : W p l e room_1 s m #[Value.ref b] below meth c H locs cells slots (lw_Z below #[Value.ref b] s) (F0 m 3317 ls []) :=
  W.widen hc hs (k Z g Y H locs ls hS hw hl)
theorem lz_go {off : Int} (G : LF p l s m meth c b L xs X cJ kS) (k : GO p l e s m below meth c b X cJ ad pa pb qa qb ra rb ha hb d rr oa i n 3317) (hS : SIM Z Y) (hw : lo_Wd X (W3 X cJ ad pa pb qa qb ra rb ha hb d rr oa Z g Y) (fun q => s.heap.size ≤ q) s.heap H locs) (hl : lv_has ls 9 (LVi b ad d oa i)) (hc : cells ≤ 601024 - 10 * n) (hs : slots ≤ 7293034 - 60 * n) (hdg : decode cL_law pc = .ok (.goto off, 3)) (ht : (pc : Int) + off = ((3317 : Nat) : Int)) : W p l e room_1 s m #[Value.ref b] below meth c H locs cells slots (lw_Z below #[Value.ref b] s) (F0 m pc ls []) :=
  lv_goto G.1.1 G.1.2.1 hdg ht (lz_on k hS hw hl hc hs)
/-- the reference's answer beside the class's: what is thrown -/
theorem lz_thr {kk z : Int} (G : LF p l s m meth c b L xs X cJ kS) (T : T_thr pc) (hk : kk = eM Y 0) (hw : lo_Wd X (W3 X cJ ad pa pb qa qb ra rb ha hb d rr oa Z g Y) (fun q => s.heap.size ≤ q) s.heap H locs) (hl : lv_has ls 9 ((5, .int (iI kk)) :: LVi b ad d oa i)) (hc : cells ≤ 601024) (hs : slots ≤ 7293034)
    (kk' : ∀ (H : Heap) (locs : List Loc) (ls : Array Slot), lo_Wd X (W3 X cJ ad pa pb qa qb ra rb ha hb d rr oa Z g Y) (fun q => s.heap.size ≤ q) s.heap H locs → lv_has ls 9 ((6, .int (iI z)) :: (5, .int (iI kk)) :: LVi b ad d oa i) → W p l e room_1 s m #[Value.ref b] below meth c H locs cells slots (lw_Z below #[Value.ref b] s) (F0 m (pc + 15) ls [.int (iI kk)])) : W p l e room_1 s m #[Value.ref b] below meth c H locs cells slots (lw_Z below #[Value.ref b] s) (F0 m pc ls [.int (iI z)]) := by
  have E := G.1
  obtain ⟨t0, t1, t2, t3, t4, t5⟩ := T
  refine lv_istore (lv' := (6, .int (iI z)) :: (5, .int (iI kk)) :: LVi b ad d oa i) E.1 E.2.1 t0 hl (by decide) rfl (fun ls hl => ?_)
  refine lv_aload_n E.1 E.2.1 t1 rfl (lv_at hl 4 rfl) ?_
  refine lz_c8 (F := fun (zz : Int) (Y9 : RZ) => zz = eM Y 0 ∧ Y9 = Y) (f := fun zz => .int (iI zz)) G hw (CM.toE ((uX8_thrown l X d rr Y).weak (fun v w h => ⟨_, _, ⟨rfl, rfl⟩, h.1, h.2⟩))) (cwV 0 E.2.2.2.2 gL_law_X8_thrown rfl rfl rfl (by decide +kernel) ⟨Nat.le_of_ble_eq_true rfl, Nat.le_of_ble_eq_true rfl⟩) hl.1 rfl rfl (Nat.le_of_ble_eq_true rfl) t2 ⟨by show cells + 0 ≤ 601024; omega, by show slots + 0 ≤ 7293034; omega⟩ (fun zz Y9 H2 locs2 hF hw2 => ?_)
  obtain ⟨rfl, rfl⟩ := hF
  refine lv_iload E.1 E.2.1 t3 (lv_at hl 1 rfl) ?_
  refine lv_icmp_eq (tgt := pc + 13) E.1 E.2.1 t4 (by omega) (fun _ => ?_) (fun q => absurd (by rw [hk]) q)
  refine lv_iload E.1 E.2.1 t5 (lv_at hl 1 rfl) ?_
  exact kk' _ _ ls hw2 hl
theorem lz_tail {kk z off : Int} (G : LF p l s m meth c b L xs X cJ kS) (T : T_thr pc) (T2 : T_int pc) (hdg : decode cL_law (pc + 30) = .ok (.goto off, 3)) (ht : ((pc + 30 : Nat) : Int) + off = ((3317 : Nat) : Int)) (hkr : 0 ≤ kk ∧ kk ≤ 3) (hJ : kk = eM Y 0 ∧ (kk = 0 → g 0 = (iI z).toInt64) ∧ SIM Z Y) (hw : lo_Wd X (W3 X cJ ad pa pb qa qb ra rb ha hb d rr oa Z g Y) (fun q => s.heap.size ≤ q) s.heap H locs) (hl : lv_has ls 9 ((5, .int (iI kk)) :: LVi b ad d oa i)) (k : GO p l e s m below meth c b X cJ ad pa pb qa qb ra rb ha hb d rr oa i n 3317) (hc : cells ≤ 601024 - 10 * n) (hs : slots ≤ 7293034 - 60 * n) : W p l e room_1 s m #[Value.ref b] below meth c H locs cells slots (lw_Z below #[Value.ref b] s) (F0 m pc ls [.int (iI z)]) := by
  have E := G.1
  obtain ⟨j1, j2, j3⟩ := hJ
  obtain ⟨t0, t1, t2, t3, t4, t5, t6, t7⟩ := T2
  refine lz_thr G T j1 hw hl (by omega) (by omega) (fun H locs ls hw hl => ?_)
  refine lv_if_ne (tgt := pc + 30) E.1 E.2.1 t0 (by omega) (fun _ => ?_) (fun h => ?_)
  · exact lz_go G k j3 hw (lv_sub hl [2, 3, 4, 5, 6] rfl) hc hs hdg ht
  · have eg := j2 ((iI_eq (by omega) (by omega)).mp h)
    refine lv_aload_n E.1 E.2.1 t1 rfl (lv_at hl 3 rfl) ?_
    refine lv_iconst (v := iI 0) E.1 E.2.1 t2 rfl ?_
    refine lo_lald E G.2.2.2.2.2.1 hw 145 W3_145 t3 ?_
    refine lv_iload E.1 E.2.1 t4 (lv_at hl 0 rfl) ?_
    refine lv_i2l E.1 E.2.1 t5 rfl ?_
    rw [eg]
    refine W.lcmp E.1 E.2.1 t6 ?_
    refine lv_if_eq (tgt := pc + 30) E.1 E.2.1 t7 (by omega) (fun _ => ?_) (fun h => absurd (lz_cmp _) h)
    exact lz_go G k j3 hw (lv_sub hl [2, 3, 4, 5, 6] rfl) hc hs hdg ht
theorem lz_tailB {kk z off : Int} (G : LF p l s m meth c b L xs X cJ kS) (T : T_thr pc) (T2 : T_boo pc) (hdg : decode cL_law (pc + 37) = .ok (.goto off, 3)) (ht : ((pc + 37 : Nat) : Int) + off = ((3317 : Nat) : Int)) (hkr : 0 ≤ kk ∧ kk ≤ 3) (hJ : kk = eM Y 0 ∧ (kk = 0 → g 0 = bL z) ∧ SIM Z Y) (hw : lo_Wd X (W3 X cJ ad pa pb qa qb ra rb ha hb d rr oa Z g Y) (fun q => s.heap.size ≤ q) s.heap H locs) (hl : lv_has ls 9 ((5, .int (iI kk)) :: LVi b ad d oa i)) (k : GO p l e s m below meth c b X cJ ad pa pb qa qb ra rb ha hb d rr oa i n 3317) (hc : cells ≤ 601024 - 10 * n) (hs : slots ≤ 7293034 - 60 * n) : W p l e room_1 s m #[Value.ref b] below meth c H locs cells slots (lw_Z below #[Value.ref b] s) (F0 m pc ls [.int (iI z)]) := by
  have E := G.1
  obtain ⟨j1, j2, j3⟩ := hJ
  obtain ⟨t0, t1, t2, t3, t4, t5, t6, t7, t8, t9, t10⟩ := T2
  refine lz_thr G T j1 hw hl (by omega) (by omega) (fun H locs ls hw hl => ?_)
  refine lv_if_ne (tgt := pc + 37) E.1 E.2.1 t0 (by omega) (fun _ => ?_) (fun h => ?_)
  · exact lz_go G k j3 hw (lv_sub hl [2, 3, 4, 5, 6] rfl) hc hs hdg ht
  · have eg := j2 ((iI_eq (by omega) (by omega)).mp h)
    refine lv_aload_n E.1 E.2.1 t1 rfl (lv_at hl 3 rfl) ?_
    refine lv_iconst (v := iI 0) E.1 E.2.1 t2 rfl ?_
    refine lo_lald E G.2.2.2.2.2.1 hw 145 W3_145 t3 ?_
    refine lv_iload E.1 E.2.1 t4 (lv_at hl 0 rfl) ?_
    have fin : ∀ v : Int64, g 0 = v → W p l e room_1 s m #[Value.ref b] below meth c H locs cells slots (lw_Z below #[Value.ref b] s) (F0 m (pc + 31) ls [.long v, .long (g 0)]) := fun v hv => by
      rw [hv]
      refine W.lcmp E.1 E.2.1 t9 ?_
      refine lv_if_eq (tgt := pc + 37) E.1 E.2.1 t10 (by omega) (fun _ => ?_) (fun h => absurd (lz_cmp _) h)
      exact lz_go G k j3 hw (lv_sub hl [2, 3, 4, 5, 6] rfl) hc hs hdg ht
    refine lv_if_eq (tgt := pc + 30) E.1 E.2.1 t5 (by omega) (fun hz => ?_) (fun hz => ?_)
    · refine lv_lconst (v := iL 0) E.1 E.2.1 t8 rfl ?_
      exact fin _ (eg.trans (if_pos hz))
    · refine lv_lconst (v := iL 1) E.1 E.2.1 t6 rfl ?_
      refine lv_goto (tgt := pc + 31) E.1 E.2.1 t7 (by omega) ?_
      exact fin _ (eg.trans (if_neg hz))
/-- two doubles that are one -/
def T_dbl (pc : Nat) : Prop := decode cL_law pc = .ok (.dstore 7, 2) ∧ decode cL_law (pc + 2) = .ok (.dload 5, 2) ∧ decode cL_law (pc + 4) = .ok (.dload 7, 2) ∧ decode cL_law (pc + 6) = .ok (.dcmp .l, 1) ∧ decode cL_law (pc + 7) = .ok (.ifCond .eq 21, 3) ∧ decode cL_law (pc + 10) = .ok (.dload 5, 2) ∧ decode cL_law (pc + 12) = .ok (.dload 5, 2) ∧ decode cL_law (pc + 14) = .ok (.dcmp .l, 1) ∧ decode cL_law (pc + 15) = .ok (.ifCond .eq 11, 3) ∧ decode cL_law (pc + 18) = .ok (.dload 7, 2) ∧ decode cL_law (pc + 20) = .ok (.dload 7, 2) ∧ decode cL_law (pc + 22) = .ok (.dcmp .l, 1) ∧ decode cL_law (pc + 23) = .ok (.ifCond .ne 5, 3)
theorem lz_dbl {x : UInt64} {off : Int} (G : LF p l s m meth c b L xs X cJ kS) (T : T_dbl pc) (hdg : decode cL_law (pc + 28) = .ok (.goto off, 3)) (ht : ((pc + 28 : Nat) : Int) + off = ((3317 : Nat) : Int)) (hS : SIM Z Y) (hw : lo_Wd X (W3 X cJ ad pa pb qa qb ra rb ha hb d rr oa Z g Y) (fun q => s.heap.size ≤ q) s.heap H locs) (hl : lv_has ls 9 ((5, .double x) :: LVi b ad d oa i)) (k : GO p l e s m below meth c b X cJ ad pa pb qa qb ra rb ha hb d rr oa i n 3317) (hc : cells ≤ 601024 - 10 * n) (hs : slots ≤ 7293034 - 60 * n) : W p l e room_1 s m #[Value.ref b] below meth c H locs cells slots (lw_Z below #[Value.ref b] s) (F0 m pc ls [.double x]) := by
  have E := G.1
  obtain ⟨t0, t1, t2, t3, t4, t5, t6, t7, t8, t9, t10, t11, t12⟩ := T
  refine lv_dstore (lv' := (7, .double x) :: (5, .double x) :: LVi b ad d oa i) E.1 E.2.1 t0 hl (by decide) rfl (fun ls hl => ?_)
  have fin : W p l e room_1 s m #[Value.ref b] below meth c H locs cells slots (lw_Z below #[Value.ref b] s) (F0 m (pc + 28) ls []) := lz_go G k hS hw (lv_sub hl [2, 3, 4, 5, 6] rfl) hc hs hdg ht
  refine lv_dload E.1 E.2.1 t1 (lv_at hl 1 rfl) ?_
  refine lv_dload E.1 E.2.1 t2 (lv_at hl 0 rfl) ?_
  refine lv_dcmp E.1 E.2.1 t3 ?_
  refine lv_if_eq (tgt := pc + 28) E.1 E.2.1 t4 (by omega) (fun _ => fin) (fun hz => ?_)
  refine lv_dload E.1 E.2.1 t5 (lv_at hl 1 rfl) ?_
  refine lv_dload E.1 E.2.1 t6 (lv_at hl 1 rfl) ?_
  refine lv_dcmp E.1 E.2.1 t7 ?_
  refine lv_if_eq (tgt := pc + 26) E.1 E.2.1 t8 (by omega) (fun h => absurd h hz) (fun _ => ?_)
  refine lv_dload E.1 E.2.1 t9 (lv_at hl 0 rfl) ?_
  refine lv_dload E.1 E.2.1 t10 (lv_at hl 0 rfl) ?_
  refine lv_dcmp E.1 E.2.1 t11 ?_
  exact lv_if_ne (tgt := pc + 28) E.1 E.2.1 t12 (by omega) (fun _ => fin) (fun h => absurd h hz)
/-- the loop's end -/
theorem lz_inc (G : LF p l s m meth c b L xs X cJ kS) (k : GO p l e s m below meth c b X cJ ad pa pb qa qb ra rb ha hb d rr oa (i + 6) n 23) : GO p l e s m below meth c b X cJ ad pa pb qa qb ra rb ha hb d rr oa i n 3317 := by
  intro Z g Y H locs ls hS hw hl
  have E := G.1
  refine lv_iinc (k := 0) (v := iI (i + 6)) (lv' := LVi b ad d oa (i + 6)) E.1 E.2.1 dL_law_3317 hl rfl (iI_add i 6) (by decide) rfl (fun ls hl => ?_)
  refine lv_goto (tgt := 23) E.1 E.2.1 dL_law_3320 rfl ?_
  exact k Z g Y H locs ls hS hw hl
/-- the law's end -/
theorem lz_end (G : LF p l s m meth c b L xs X cJ kS) : GO p l e s m below meth c b X cJ ad pa pb qa qb ra rb ha hb d rr oa i n 3323 := by
  intro Z g Y H locs ls hS hw hl
  have E := G.1
  refine lv_iconst (v := iI 1) E.1 E.2.1 dL_law_3323 rfl ?_
  refine va_forget (fun q hq => hw.2.2.1.2.2 q hq) ?_
  refine W.widen (k := 601024) (n := 7293034) (by omega) (by omega) ?_
  exact W.base (lw_ret (Drawn.sameBut.refl s.drawn lw_cs) E.1 E.2.1 G.2.1 G.2.2.1 dL_law_3324)
end LAW2
