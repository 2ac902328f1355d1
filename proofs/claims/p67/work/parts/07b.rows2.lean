theorem lo_arr_ext {D : va_G} {cl : List vw_C} {c : ClassId} {n a : Nat} {f g : Nat → Int32} {H : Heap} (h : va_at D cl (a, .inl (c, n, .inl f)) H) (e : ∀ j, j < n → f j = g j) : va_at D cl (a, .inl (c, n, .inl g)) H := by
  have e2 : vp_cell c (n, .inl f) = vp_cell c (n, .inl g) := by
    rw [vp_cell_i, vp_cell_i]
    unfold arrV
    congr 1
    congr 1
    funext j
    exact congrArg Value.int (e j.val j.isLt)
  show H[a]? = some (vp_cell c (n, .inl g))
  rw [← e2]
  exact h
theorem lo_Wd_ext {X : KX} {ws : va_W} {A : Nat → Prop} {H0 H : Heap} {locs : List Loc} {q0 a n : Nat} {c : ClassId} {f g : Nat → Int32} (hw : lo_Wd X ws A H0 H locs) (hq : ws[q0]? = some (a, .inl (c, n, .inl f))) (e : ∀ j, j < n → f j = g j) : lo_Wd X (ws.set q0 (a, .inl (c, n, .inl g))) A H0 H locs := by
  have hl := (List.getElem?_eq_some_iff.mp hq).1
  refine ⟨fun k q hk => ?_, hw.2.1.set hq, hw.2.2⟩
  by_cases h : q0 = k
  · subst h
    rw [List.getElem?_set_self hl] at hk
    cases hk
    exact lo_arr_ext (hw.1 q0 _ hq) e
  · rw [List.getElem?_set_ne h] at hk
    exact hw.1 k q hk
section LOR2
variable {p : Program} {l : Launch} {e : Env} {R : Room} {s : State} {m : MethodId} {args : Array Value} {below : List Frame} {meth : Method} {c : Code} {H : Heap} {locs : List Loc} {cells slots : Nat} {Q : State → Prop}
variable {cc : ByteArray} {pc nL : Nat} {ls : Array Slot} {rest st0 : List Value} {Ts : List Cond} {own : String} {X : KX} {ws : va_W} {A : Nat → Prop} {H0 : Heap}
theorem iI_min {x y : Int} (hx : i32 x) (hy : i32 y) : (if iI y < iI x then iI y else iI x) = iI (min x y) := by
  by_cases h : y < x
  · rw [if_pos ((iI_lt hy hx).2 h), show min x y = y by omega]
  · rw [if_neg (mt (iI_lt hy hx).1 h), show min x y = x by omega]
theorem lo_mmin (E : CallFix p m c cc nL s args Ts own) (hls : ls.size = nL) {index : Nat} (hlink : (Cond.methodLink own index Lib.Math.min.name).before args s = true) (hstat : (Cond.static Lib.Math.min.name).before args s = true) (hini : (Cond.initialized "java/lang/Math").before args s = true) (hcode : (Cond.code Lib.Math.min.name Lib.Math.min.code 2 (some .int)).before args s = true)
    (hframes : 1 ≤ R.frames) (hlocals : (rest.map fun v => v.category).sum + 13 ≤ R.locals) (hc : cells ≤ R.cells) (hs : slots ≤ R.slots) {x y : Int} (hx : i32 x) (hy : i32 y) (hdg : decode cc pc = .ok (.invokestatic index, 3))
    (kk : W p l e R s m args below meth c H locs cells slots Q (F0 m (pc + 3) ls (.int (iI (min x y)) :: rest))) : W p l e R s m args below meth c H locs cells slots Q (F0 m pc ls (.int (iI y) :: .int (iI x) :: rest)) :=
  va_mmin E.1 E.2.1 (E.2.2.1.trans hls.symm) E.2.2.2.1 hlink hstat hini hcode hframes hlocals hc hs hdg (by rw [iI_min hx hy]; exact kk)
theorem lo_aldN (E : CallFix p m c cc nL s args Ts own) (hK : lo_K X s) (hw : lo_Wd X ws A H0 H locs) (q0 : Nat) {n a : Nat} {f : Nat → Nat} (ha : ws[q0]? = some (a, .inl (X.cN, n, .inr (.inr (.inr (.inr (fun j => some (f j)))))))) {z : Int} (hz : i32 z ∧ 0 ≤ z ∧ z < (n : Int)) (hdg : decode cc pc = .ok (.aaload, 1))
    (kk : W p l e R s m args below meth c H locs cells slots Q (F0 m (pc + 1) ls (.ref (f z.toNat) :: rest))) : W p l e R s m args below meth c H locs cells slots Q (F0 m pc ls (.int (iI z) :: .ref a :: rest)) :=
  va_aldq E.1 E.2.1 hK hw.1 q0 2 ha rfl (iI_in hz.1 hz.2.1 hz.2.2) hdg (by rw [iI_cl hz.1]; exact kk)
theorem lo_aldP (E : CallFix p m c cc nL s args Ts own) (hK : lo_K X s) (hw : lo_Wd X ws A H0 H locs) (q0 : Nat) {n a : Nat} {f : Nat → Nat} (ha : ws[q0]? = some (a, .inl (X.cP, n, .inr (.inr (.inr (.inr (fun j => some (f j)))))))) {z : Int} (hz : i32 z ∧ 0 ≤ z ∧ z < (n : Int)) (hdg : decode cc pc = .ok (.aaload, 1))
    (kk : W p l e R s m args below meth c H locs cells slots Q (F0 m (pc + 1) ls (.ref (f z.toNat) :: rest))) : W p l e R s m args below meth c H locs cells slots Q (F0 m pc ls (.int (iI z) :: .ref a :: rest)) :=
  va_aldq E.1 E.2.1 hK hw.1 q0 3 ha rfl (iI_in hz.1 hz.2.1 hz.2.2) hdg (by rw [iI_cl hz.1]; exact kk)
theorem lo_fits (z : Int) : fits .int (.int (iI z)) = true := rfl
theorem lo_copyi (E : CallFix p m c cc nL s args Ts own) (hls : ls.size = nL) {index : Nat} (hlink : (Cond.methodLink own index arraycopyName).before args s = true) (hnat : (Cond.native arraycopyName).before args s = true) (hstat : (Cond.static arraycopyName).before args s = true) (hini : (Cond.initialized "java/lang/System").before args s = true)
    (hK : lo_K X s) (hw : lo_Wd X ws A H0 H locs) (q0 q1 : Nat) {a0 a n : Nat} {f g : Nat → Int} (ha0 : ws[q0]? = some (a0, .inl (X.cI, n, .inl (aI f)))) (ha1 : ws[q1]? = some (a, .inl (X.cI, n, .inl (aI g)))) {z : Int} (hz : i32 z ∧ z = (n : Int)) {ws' : va_W} (hws : ws.set q1 (a, .inl (X.cI, n, .inl (aI f))) = ws')
    (hframes : 1 ≤ R.frames) (hlocals : (rest.map fun v => v.category).sum + (nativeFrameWords "java/lang/System" "arraycopy" 5 + 11) ≤ R.locals) (hdg : decode cc pc = .ok (.invokestatic index, 3))
    (kk : ∀ (H1 : Heap) (locs1 : List Loc), lo_Wd X ws' A H0 H1 locs1 → W p l e R s m args below meth c H1 locs1 cells slots Q (F0 m (pc + 3) ls rest)) : W p l e R s m args below meth c H locs cells slots Q (F0 m pc ls (.int (iI z) :: .int (iI 0) :: .ref a :: .int (iI 0) :: .ref a0 :: rest)) := by
  obtain ⟨hz1, hz2⟩ := hz
  have h0 : (iI 0).toNatClampNeg = 0 := iI_cl (by omega)
  have hn : (iI z).toNatClampNeg = n := by rw [iI_cl hz1]; omega
  refine va_copyi E.1 E.2.1 (E.2.2.1.trans hls.symm) E.2.2.2.1 hlink hnat hstat hini hK hw.1 hw.2.1 hw.2.2.1 q0 q1 1 1 ha0 ha1 rfl rfl rfl (by rw [← iI_z]; decide) (by rw [← iI_z]; decide) (by rw [iI_z, iI_lt hz1 (by omega)]; omega) (by rw [h0, hn]; omega) (by rw [h0, hn]; omega) (fun i _ => lo_fits _) hframes hlocals hdg (fun H1 locs1 h1 h2 h3 => kk H1 locs1 ?_)
  rw [h0, hn] at h1 h2
  have hl := (List.getElem?_eq_some_iff.mp ha1).1
  have hx := lo_Wd_ext (X := X) (A := A) (H0 := H0) (H := H1) (locs := locs1) (q0 := q1) (a := a) (n := n) (c := X.cI) (g := aI f) ⟨h1, h2, h3, hw.2.2.2⟩ (List.getElem?_set_self hl) (fun j hj => by
    show va_cpy (aI f) (aI g) 0 0 n j = aI f j
    unfold va_cpy
    rw [if_pos (by omega)]
    show aI f (0 + (j - 0)) = _
    rw [Nat.zero_add, Nat.sub_zero])
  rw [List.set_set, hws] at hx
  exact hx
end LOR2
