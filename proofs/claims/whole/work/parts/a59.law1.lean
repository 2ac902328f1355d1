/-! the law's walk: its world, its rows -/
abbrev xz (xs : Nat → Int32) (k : Int) : Int := (xs k.toNat).toInt
def bz (z : Int) : Int := if z = 0 then 0 else 1
theorem bz_r (z : Int) : bz z = 0 ∨ bz z = 1 := by
  by_cases h : z = 0
  · exact Or.inl (if_pos h)
  · exact Or.inr (if_neg h)
theorem i32_bz (z : Int) : i32 (bz z) := by rcases bz_r z with h | h <;> rw [h] <;> omega
def W3 (X : KX) (cJ : ClassId) (ad pa pb qa qb ra rb : Nat → Nat) (ha hb : Nat → Nat → Nat) (d rr : Nat → Nat) (oa : Nat) (Z : CZ) (g : Nat → Int64) (Y : RZ) : va_W := ((clB X ad pa pb qa qb ra rb ha hb Z).flatten ++ [arJ cJ oa 1 g]) ++ (rfB X d rr Y).flatten
def LF (p : Program) (l : Launch) (s : State) (m : MethodId) (meth : Method) (c : Code) (b L : Nat) (xs : Nat → Int32) (X : KX) (cJ : ClassId) (kS : Nat → Nat) : Prop :=
  CallFix p m c cL_law 9 s #[Value.ref b] wsL_law RL ∧ meth.sig.returnType = ret ∧ meth.locks = false ∧ lo_K X s ∧ lo_Ev kS (fun q => s.heap.size ≤ q) s s.heap ∧ lo_J X cJ s ∧ va_X b L xs s s.heap ∧ b < s.heap.size ∧ l.stackTraces = false ∧ L ≤ 3072
section LAW
variable {p : Program} {l : Launch} {e : Env} {R : Room} {s : State} {m : MethodId} {below : List Frame} {meth : Method} {c : Code} {H : Heap} {locs : List Loc} {cells slots : Nat} {Q : State → Prop}
variable {pc : Nat} {ls : Array Slot} {rest st0 : List Value} {X : KX} {cJ : ClassId} {kS : Nat → Nat} {b L : Nat} {xs : Nat → Int32}
variable {ad pa pb qa qb ra rb : Nat → Nat} {ha hb : Nat → Nat → Nat} {d rr : Nat → Nat} {oa : Nat} {Z : CZ} {g : Nat → Int64} {Y : RZ} {ws : va_W}
theorem W3_l : W3 X cJ ad pa pb qa qb ra rb ha hb d rr oa Z g Y = (clB X ad pa pb qa qb ra rb ha hb Z).flatten ++ ([arJ cJ oa 1 g] ++ (rfB X d rr Y).flatten) := List.append_assoc _ _ _
theorem clJ_n : ((clB X ad pa pb qa qb ra rb ha hb Z).flatten ++ [arJ cJ oa 1 g]).length = 146 := by rw [List.length_append, clB_n]; rfl
theorem W3_0 : (W3 X cJ ad pa pb qa qb ra rb ha hb d rr oa Z g Y)[0]? = some (oX7 (ad 0) (ad 1) (zI Z 0) (pa 0) (ad 2) (qa 0) (zI Z 1) (ad 3) (ra 0) (ad 4) (ad 5) (ad 6)) := rfl
theorem W3_145 : (W3 X cJ ad pa pb qa qb ra rb ha hb d rr oa Z g Y)[145]? = some (arJ cJ oa 1 g) := by
  rw [W3_l, List.getElem?_append_right (by rw [clB_n]; exact Nat.le_refl _), clB_n]
  rfl
theorem W3_146 : (W3 X cJ ad pa pb qa qb ra rb ha hb d rr oa Z g Y)[146]? = some (oX8 (d 0) (eM Y 0) (d 1) (d 2) (eM Y 3) (d 3) (eM Y 5) (d 4) (d 5) (d 6) (eM Y 9) (d 7) (eM Y 11) (eM Y 12) (eM Y 13) (eM Y 14) (eM Y 15) (eM Y 16) (eM Y 17) (eM Y 18) (eM Y 19) (eM Y 20) (eM Y 21) (eM Y 22) (eM Y 23) (eM Y 24) (eM Y 25) (eM Y 26) (eM Y 27) (eM Y 28)) := by
  unfold W3
  rw [List.getElem?_append_right (by rw [clJ_n]; exact Nat.le_refl _), clJ_n]
  rfl
/-- an int of the script -/
theorem lz_xs (k : Int) : xs k.toNat = iI (xz xs k) := iI_of _
theorem lz_ld (G : LF p l s m meth c b L xs X cJ kS) (hw : lo_Wd X ws (fun q => s.heap.size ≤ q) s.heap H locs) {k : Int} (hk : 0 ≤ k ∧ k < L) (hdg : decode cL_law pc = .ok (.iaload, 1))
    (kk : W p l e R s m #[Value.ref b] below meth c H locs cells slots Q (F0 m (pc + 1) ls (.int (iI (xz xs k)) :: rest))) : W p l e R s m #[Value.ref b] below meth c H locs cells slots Q (F0 m pc ls (.int (iI k) :: .ref b :: rest)) := by
  obtain ⟨E, -, -, -, -, -, hX, hb, -, hL⟩ := G
  refine va_sld E.1 E.2.1 hX hb (Nat.not_le.mpr hb) hw.2.2.1 (iI_in (by omega) hk.1 hk.2) hdg ?_
  rw [iI_cl (by omega), lz_xs (xs := xs) k]
  exact kk
/-- an int of the script behind the call's number -/
theorem lz_rd (G : LF p l s m meth c b L xs X cJ kS) (hw : lo_Wd X ws (fun q => s.heap.size ≤ q) s.heap H locs) {i j : Int} (hk : 0 ≤ i + j ∧ i + j < L) (h0 : ls[0]? = some (.val (.ref b))) (h4 : ls[4]? = some (.val (.int (iI i))))
    (d0 : decode cL_law pc = .ok (.aload_n 0, 1)) (d1 : decode cL_law (pc + 1) = .ok (.iload 4, 2)) (d2 : decode cL_law (pc + 3) = .ok (.iconst j, 1)) (d3 : decode cL_law (pc + 4) = .ok (.iadd, 1)) (d4 : decode cL_law (pc + 5) = .ok (.iaload, 1))
    (kk : W p l e R s m #[Value.ref b] below meth c H locs cells slots Q (F0 m (pc + 6) ls (.int (iI (xz xs (i + j))) :: rest))) : W p l e R s m #[Value.ref b] below meth c H locs cells slots Q (F0 m pc ls rest) := by
  have E := G.1
  refine lv_aload_n E.1 E.2.1 d0 rfl h0 ?_
  refine lv_iload E.1 E.2.1 d1 h4 ?_
  refine lv_iconst (v := iI j) E.1 E.2.1 d2 rfl ?_
  refine lv_iadd E.1 E.2.1 d3 ?_
  rw [iI_add]
  exact lz_ld G hw hk d4 kk
/-- a truth value out of it -/
theorem lz_bo (G : LF p l s m meth c b L xs X cJ kS) {z : Int} (hz : i32 z) (d0 : decode cL_law pc = .ok (.ifCond .eq 7, 3)) (d1 : decode cL_law (pc + 3) = .ok (.iconst 1, 1)) (d2 : decode cL_law (pc + 4) = .ok (.goto 4, 3)) (d3 : decode cL_law (pc + 7) = .ok (.iconst 0, 1))
    (kk : W p l e R s m #[Value.ref b] below meth c H locs cells slots Q (F0 m (pc + 8) ls (.int (iI (bz z)) :: rest))) : W p l e R s m #[Value.ref b] below meth c H locs cells slots Q (F0 m pc ls (.int (iI z) :: rest)) := by
  have E := G.1
  refine lv_if_eq (tgt := pc + 7) E.1 E.2.1 d0 (by omega) (fun h => ?_) (fun h => ?_)
  · have e : z = 0 := (iI_eq hz (by omega)).mp h
    refine lv_iconst (v := iI 0) E.1 E.2.1 d3 rfl ?_
    rw [show bz z = 0 from if_pos e] at kk
    exact kk
  · have e : ¬ z = 0 := fun q => h (by rw [q]; rfl)
    refine lv_iconst (v := iI 1) E.1 E.2.1 d1 rfl ?_
    refine lv_goto (tgt := pc + 8) E.1 E.2.1 d2 (by omega) ?_
    rw [show bz z = 1 from if_neg e] at kk
    exact kk
/-- a call of the class -/
theorem lz_c7 {T : Type} {F : T → CZ → Prop} {f : T → Value} {y : MethodName} {bytes : ByteArray} {maxL index n mc ms : Nat} {ret : Option FieldType} {wsy : List Cond} {rm : Room} {As : List Value} (G : LF p l s m meth c b L xs X cJ kS) (hw : lo_Wd X (W3 X cJ ad pa pb qa qb ra rb ha hb d rr oa Z g Y) (fun q => s.heap.size ≤ q) s.heap H locs)
    (hM : CE l X kS y wsy rm (.ref (ad 0) :: As) (clB X ad pa pb qa qb ra rb ha hb Z).flatten (fun v9 w9 => ∃ (zz : T) (Z9 : CZ), F zz Z9 ∧ v9 = some (f zz) ∧ w9 = (clB X ad pa pb qa qb ra rb ha hb Z9).flatten) mc ms) (cw : CallW R s #[Value.ref b] RL RX7 index y bytes maxL ret wsy rm mc ms n) (hls : ls.size = 9) (hn : As.length = n)
    (hst : st0 = As.reverse ++ .ref (ad 0) :: rest) (hroom : (rest.map fun v => v.category).sum ≤ 8) (hdg : decode cL_law pc = .ok (.invokevirtual index, 3)) (hf : cells + mc ≤ R.cells ∧ slots + ms ≤ R.slots)
    (kk : ∀ (zz : T) (Z9 : CZ) (H1 : Heap) (locs1 : List Loc), F zz Z9 → lo_Wd X (W3 X cJ ad pa pb qa qb ra rb ha hb d rr oa Z9 g Y) (fun q => s.heap.size ≤ q) s.heap H1 locs1 → W p l e R s m #[Value.ref b] below meth c H1 locs1 (cells + mc) (slots + ms) Q (F0 m (pc + 3) ls (f zz :: rest))) : W p l e R s m #[Value.ref b] below meth c H locs cells slots Q (F0 m pc ls st0) := by
  refine lo_callVE (q0 := 0) (rest := rest) G.1 G.2.2.2.1 hw G.2.2.2.2.1 hM cw W3_0 rfl (List.range' 0 145) (by rw [W3_l]; exact lo_ps_hd clB_n) (by decide +kernel) hls hn hst hroom hdg hf (fun v w1 H1 locs1 hq hw => ?_)
  obtain ⟨zz, Z9, hF, rfl, rfl⟩ := hq
  exact kk zz Z9 H1 locs1 hF (lo_cast (by rw [W3_l, W3_l]; exact lo_sets_hd clB_n clB_n) hw)
/-- a call of the reference -/
theorem lz_c8 {T : Type} {F : T → RZ → Prop} {f : T → Value} {y : MethodName} {bytes : ByteArray} {maxL index n mc ms : Nat} {ret : Option FieldType} {wsy : List Cond} {rm : Room} {As : List Value} (G : LF p l s m meth c b L xs X cJ kS) (hw : lo_Wd X (W3 X cJ ad pa pb qa qb ra rb ha hb d rr oa Z g Y) (fun q => s.heap.size ≤ q) s.heap H locs)
    (hM : CE l X kS y wsy rm (.ref (d 0) :: As) (rfB X d rr Y).flatten (fun v9 w9 => ∃ (zz : T) (Y9 : RZ), F zz Y9 ∧ v9 = some (f zz) ∧ w9 = (rfB X d rr Y9).flatten) mc ms) (cw : CallW R s #[Value.ref b] RL RX8 index y bytes maxL ret wsy rm mc ms n) (hls : ls.size = 9) (hn : As.length = n)
    (hst : st0 = As.reverse ++ .ref (d 0) :: rest) (hroom : (rest.map fun v => v.category).sum ≤ 8) (hdg : decode cL_law pc = .ok (.invokevirtual index, 3)) (hf : cells + mc ≤ R.cells ∧ slots + ms ≤ R.slots)
    (kk : ∀ (zz : T) (Y9 : RZ) (H1 : Heap) (locs1 : List Loc), F zz Y9 → lo_Wd X (W3 X cJ ad pa pb qa qb ra rb ha hb d rr oa Z g Y9) (fun q => s.heap.size ≤ q) s.heap H1 locs1 → W p l e R s m #[Value.ref b] below meth c H1 locs1 (cells + mc) (slots + ms) Q (F0 m (pc + 3) ls (f zz :: rest))) : W p l e R s m #[Value.ref b] below meth c H locs cells slots Q (F0 m pc ls st0) := by
  refine lo_callVE (q0 := 146) (rest := rest) G.1 G.2.2.2.1 hw G.2.2.2.2.1 hM cw W3_146 rfl (List.range' 146 16) (by unfold W3; exact lo_ps_tl clJ_n rfB_n) (by decide +kernel) hls hn hst hroom hdg hf (fun v w1 H1 locs1 hq hw => ?_)
  obtain ⟨zz, Y9, hF, rfl, rfl⟩ := hq
  exact kk zz Y9 H1 locs1 hF (lo_cast (by unfold W3; exact lo_sets_tl clJ_n rfB_n rfB_n) hw)
/-- a call of one of the law's own methods -/
theorem lz_cL {F : Int → CZ → (Nat → Int64) → Prop} {y : MethodName} {bytes : ByteArray} {maxL index n mc ms : Nat} {ret : Option FieldType} {hh : List (Nat × Nat × Nat × Nat)} {wsy : List Cond} {rm : Room} {As : List Value} (G : LF p l s m meth c b L xs X cJ kS) (hw : lo_Wd X (W3 X cJ ad pa pb qa qb ra rb ha hb d rr oa Z g Y) (fun q => s.heap.size ≤ q) s.heap H locs)
    (hM : CL l X cJ kS y wsy rm As ((clB X ad pa pb qa qb ra rb ha hb Z).flatten ++ [arJ cJ oa 1 g]) (fun v9 w9 => ∃ (kk : Int) (Z9 : CZ) (g9 : Nat → Int64), F kk Z9 g9 ∧ v9 = some (.int (iI kk)) ∧ w9 = (clB X ad pa pb qa qb ra rb ha hb Z9).flatten ++ [arJ cJ oa 1 g9]) mc ms) (cw : vx_CSW R s #[Value.ref b] RL index y bytes maxL ret hh wsy rm mc ms n) (hls : ls.size = 9) (hn : As.length = n)
    (hst : st0 = As.reverse ++ rest) (hroom : (rest.map fun v => v.category).sum ≤ 8) (hdg : decode cL_law pc = .ok (.invokestatic index, 3)) (hf : cells + mc ≤ R.cells ∧ slots + ms ≤ R.slots)
    (kk : ∀ (k9 : Int) (Z9 : CZ) (g9 : Nat → Int64) (H1 : Heap) (locs1 : List Loc), F k9 Z9 g9 → lo_Wd X (W3 X cJ ad pa pb qa qb ra rb ha hb d rr oa Z9 g9 Y) (fun q => s.heap.size ≤ q) s.heap H1 locs1 → W p l e R s m #[Value.ref b] below meth c H1 locs1 (cells + mc) (slots + ms) Q (F0 m (pc + 3) ls (.int (iI k9) :: rest))) : W p l e R s m #[Value.ref b] below meth c H locs cells slots Q (F0 m pc ls st0) := by
  refine lo_callSL (rest := rest) G.1 G.2.2.2.1 hw G.2.2.2.2.1 G.2.2.2.2.2.1 hM cw (List.range' 0 146) (by unfold W3; exact lo_ps_hd clJ_n) (by decide +kernel) hls hn hst hroom hdg hf (fun v w1 H1 locs1 hq hw => ?_)
  obtain ⟨k9, Z9, g9, hF, rfl, rfl⟩ := hq
  exact kk k9 Z9 g9 H1 locs1 hF (lo_cast (by unfold W3; exact lo_sets_hd clJ_n clJ_n) hw)
end LAW
