/-! the law of the property: contracts of its own methods with handlers, calls over the class's whole world -/
theorem lo_enterW {l : Launch} {X : KX} {kS : Nat → Nat} {y : MethodName} {ws ws' : List Cond} {rm : Room} {cc : ByteArray} {maxL mc ms : Nat} {ret : Option FieldType} {hh : List (Nat × Nat × Nat × Nat)} {as : List Value} {w0 : va_W} {post : Option Value → va_W → Prop} {lv : List (Nat × Value)} (hy : plainName y.cls = true) (hw : ws = Cond.codeWith y cc maxL ret hh :: ws') (hlv : lv_args 0 as = lv) (hn : (lg_sl as).length ≤ maxL)
    (body : ∀ (p : Program) (e : Env) (s : State) (m : MethodId) (below : List Frame) (meth : Method) (c : Code) (A : Nat → Prop) (ls : Array Slot), A = va_A w0 s.heap.size → CallFix p m c cc maxL s as.toArray ws y.cls → meth.sig.returnType = ret → meth.locks = false → lo_K X s → lv_has ls maxL lv → lo_Wd X w0 A s.heap s.heap [] → lo_Ev kS A s s.heap → c.exceptionTable.toList = tableOf hh →
      W p l e rm s m as.toArray below meth c s.heap [] 0 0 (MQ below (lo_Qc X w0 s.heap.size post) as.toArray s mc ms A) (F0 m 0 ls [])) : CE l X kS y ws rm as w0 post mc ms := by
  intro sz
  refine va_MetW (cc := cc) (maxL := maxL) (ret := ret) (hh := hh) hy hw ?_
  intro p e s m args below meth c s₁ B hml hv
  obtain ⟨rfl, ⟨hsz, hP, hK, hD0⟩, hE⟩ := hv
  subst hsz
  rw [lg_entry_eq]
  have hl := lv_entry as hn
  rw [hlv] at hl
  exact body p e s m below meth c _ _ rfl ⟨B.exec, B.bytes, hml, findClass_of_methodNamed B.named, atoms_spec (ws := ws) B.pre⟩ B.returns B.notSynchronized hK hl ⟨hP, hD0.self, va_S.rf, fun q h => Or.inr h⟩ hE (vx_table (x := y) B (atoms_spec (ws := ws) B.pre _ (by rw [hw]; exact List.mem_cons_self)))
section LOW
variable {p : Program} {l : Launch} {e : Env} {R : Room} {s : State} {m : MethodId} {args : Array Value} {below : List Frame} {meth : Method} {c : Code} {H : Heap} {locs : List Loc} {cells slots : Nat} {Q : State → Prop}
variable {cc : ByteArray} {pc nL : Nat} {ls : Array Slot} {rest st0 : List Value} {Ts : List Cond} {own : String} {X : KX} {kS : Nat → Nat} {ws : va_W} {A : Nat → Prop} {H0 : Heap}
/-- the caught, at its handler -/
theorem lo_catch {name E0 : String} {ce : Cell} {q : Addr} (E : CallFix p m c cc nL s args Ts own) (pre : List ExceptionTableEntry) (x : ExceptionTableEntry) (suf : List ExceptionTableEntry) (hsplit : c.exceptionTable.toList = pre ++ x :: suf)
    (hpass : ∀ z ∈ pre, covers z pc = false ∨ (z.catchType ≠ 0 ∧ ∃ nm : String, (Cond.classLink own z.catchType nm).before args s = true ∧ va_Nc E0 nm s)) (hx : covers x pc = true) (h0 : x.catchType ≠ 0)
    (hlink : (Cond.classLink own x.catchType name).before args s = true) (hcast : va_Nw (.castable E0 name) s) (hcell : H[q]? = some ce) (hv : ce.vm = .none) (hcl : s.vm.findClass E0 = some ce.cls)
    (kk : W p l e R s m args below meth c H locs cells slots Q (F0 m x.handlerPc ls [.ref q])) : vx_W p l e R s m args below meth c H locs cells slots Q (F0 m pc ls rest) q :=
  vx_catch E.2.2.2.1 pre x suf hsplit hpass hx h0 hlink (va_Nw.use (A := args) rfl hcast) hcell hv hcl kk
/-- a call of a static method with handlers -/
theorem lo_callSWE {y : MethodName} {bytes : ByteArray} {maxL index n mc ms : Nat} {ret : Option FieldType} {hh : List (Nat × Nat × Nat × Nat)} {wsy : List Cond} {rm : Room} {As rest : List Value} {w0 : va_W} {post : Option Value → va_W → Prop} (E : CallFix p m c cc nL s args Ts own) (hK : lo_K X s) (hw : lo_Wd X ws A s.heap H locs) (hV : lo_Ev kS A s s.heap)
    (hM : CE l X kS y wsy rm As w0 post mc ms) (cw : vx_CSW R s args own index y bytes maxL ret hh wsy rm mc ms n) (ps : List Nat) (hps : ps.map (fun i => ws[i]?) = w0.map some) (hnd : va_nd ps = true) (hls : ls.size = nL) (hn : As.length = n)
    (hst : st0 = As.reverse ++ rest) (hroom : (rest.map fun v => v.category).sum ≤ 8) (hdg : decode cc pc = .ok (.invokestatic index, 3)) (hf : cells + mc ≤ R.cells ∧ slots + ms ≤ R.slots)
    (kk : ∀ (v : Option Value) (w1 : va_W) (H1 : Heap) (locs1 : List Loc), post v w1 → lo_Wd X (lo_sets ws ps w1) A s.heap H1 locs1 → W p l e R s m args below meth c H1 locs1 (cells + mc) (slots + ms) Q (F0 m (pc + 3) ls (v.toList ++ rest))) : W p l e R s m args below meth c H locs cells slots Q (F0 m pc ls st0) :=
  lo_call (rest := rest) ps (vx_runSW E (hM H.size) cw ⟨lo_blindE X kS _ w0 H.size, fun U hU hW => lo_preE ps hK hw hV hps hnd U hU hW⟩ rfl hn hls hst (lv_room hroom) hdg hf) hw hps hnd kk
end LOW
/-! the whole world as a callee's -/
theorem lw_ps {a : va_W} {n : Nat} (h : a.length = n) : (List.range' 0 n).map (fun i => a[i]?) = a.map some := by
  subst h
  apply List.ext_getElem?
  intro i
  rw [List.getElem?_map, List.getElem?_map]
  by_cases c : i < a.length
  · rw [List.getElem?_range' c, Option.map_some, show 0 + 1 * i = i by omega, List.getElem?_eq_getElem c]
    rfl
  · rw [List.getElem?_eq_none (by rw [List.length_range']; omega), List.getElem?_eq_none (by omega)]
    rfl
theorem lw_sets_all : ∀ (c a b : va_W) (k : Nat), c.length = a.length → k = b.length → lo_sets (b ++ a) (List.range' k c.length) c = b ++ c
  | [], a, b, k, h, _ => by
    have e : a = [] := List.length_eq_zero_iff.mp h.symm
    rw [e]; rfl
  | x :: c, [], b, k, h, _ => by cases h
  | x :: c, y :: a, b, k, h, hk => by
    subst hk
    show lo_sets ((b ++ y :: a).set b.length x) (List.range' (b.length + 1) c.length) c = b ++ x :: c
    have e : (b ++ y :: a).set b.length x = (b ++ [x]) ++ a := by
      rw [List.set_append_right _ _ (Nat.le_refl _), Nat.sub_self, List.set_cons_zero, List.append_assoc]; rfl
    rw [e, lw_sets_all c a (b ++ [x]) (b.length + 1) (Nat.succ.inj h) (by rw [List.length_append]; rfl), List.append_assoc]
    rfl
theorem lw_sets {a c : va_W} {n : Nat} (h : a.length = n) (hc : c.length = n) : lo_sets a (List.range' 0 n) c = c := by
  have k := lw_sets_all c a [] 0 (by rw [h, hc]) rfl
  rw [hc] at k
  exact k
theorem lw_nd : va_nd (List.range' 0 145) = true := by decide +kernel
abbrev exE (q : Nat × Nat × Nat × Nat) : ExceptionTableEntry := (tableOf [q])[0]'(Nat.zero_lt_one)
theorem pass0 {P : ExceptionTableEntry → Prop} : ∀ z ∈ ([] : List ExceptionTableEntry), P z := fun _ h => absurd h List.not_mem_nil
theorem pass1 {P : ExceptionTableEntry → Prop} {x : ExceptionTableEntry} (h : P x) : ∀ z ∈ [x], P z := fun z hz => by rw [List.mem_singleton.mp hz]; exact h
theorem pass2 {P : ExceptionTableEntry → Prop} {x y : ExceptionTableEntry} (h : P x) (h2 : P y) : ∀ z ∈ [x, y], P z := fun z hz => by
  rcases List.mem_cons.mp hz with e | e
  · rw [e]; exact h
  · rw [List.mem_singleton.mp e]; exact h2
/-- the loan looked ahead with, as it now is -/
abbrev zUA (Z : CZ) (A : Nat → Int) : CZ := (zI Z, zT Z, zB Z, zP Z, zS Z, zR Z, zQ Z, zL Z, A, zG Z)
abbrev AD9 : Type := (Nat → Nat) × (Nat → Nat) × (Nat → Nat) × (Nat → Nat) × (Nat → Nat) × (Nat → Nat) × (Nat → Nat) × (Nat → Nat → Nat) × (Nat → Nat → Nat)
/-- the class's world, all its cells in a row -/
def wC (X : KX) (D : AD9) (Z : CZ) : va_W := (clB X D.1 D.2.1 D.2.2.1 D.2.2.2.1 D.2.2.2.2.1 D.2.2.2.2.2.1 D.2.2.2.2.2.2.1 D.2.2.2.2.2.2.2.1 D.2.2.2.2.2.2.2.2 Z).flatten
set_option maxRecDepth 100000 in
theorem wC_n {X : KX} {D : AD9} {Z : CZ} : (wC X D Z).length = 145 := rfl
theorem wC_0 {X : KX} {D : AD9} {Z : CZ} : (wC X D Z)[0]? = some (oX7 (D.1 0) (D.1 1) (zI Z 0) (D.2.1 0) (D.1 2) (D.2.2.2.1 0) (zI Z 1) (D.1 3) (D.2.2.2.2.2.1 0) (D.1 4) (D.1 5) (D.1 6)) := rfl
section LWC
variable {p : Program} {l : Launch} {e : Env} {R : Room} {s : State} {m : MethodId} {args : Array Value} {below : List Frame} {meth : Method} {c : Code} {H : Heap} {locs : List Loc} {cells slots : Nat} {Q : State → Prop}
variable {cc : ByteArray} {pc nL : Nat} {ls : Array Slot} {rest st0 : List Value} {Ts : List Cond} {own : String} {X : KX} {kS : Nat → Nat} {A : Nat → Prop} {D : AD9} {Z : CZ}
/-- a call of the class -/
theorem lw_c7 {T : Type} {F : T → Prop} {g : T → Option Value} {h : T → CZ} {y : MethodName} {bytes : ByteArray} {maxL index n mc ms : Nat} {ret : Option FieldType} {wsy : List Cond} {rm : Room} {As rest : List Value} (E : CallFix p m c cc nL s args Ts own) (hK : lo_K X s) (hV : lo_Ev kS A s s.heap) (hw : lo_Wd X (wC X D Z) A s.heap H locs)
    (hM : CE l X kS y wsy rm (.ref (D.1 0) :: As) (wC X D Z) (fun v9 w9 => ∃ t : T, F t ∧ v9 = g t ∧ w9 = wC X D (h t)) mc ms) (cw : CallW R s args own RX7 index y bytes maxL ret wsy rm mc ms n) (hls : ls.size = nL) (hn : As.length = n)
    (hst : st0 = As.reverse ++ .ref (D.1 0) :: rest) (hroom : (rest.map fun v => v.category).sum ≤ 8) (hdg : decode cc pc = .ok (.invokevirtual index, 3)) (hf : cells + mc ≤ R.cells ∧ slots + ms ≤ R.slots)
    (kk : ∀ (t : T) (H1 : Heap) (locs1 : List Loc), F t → lo_Wd X (wC X D (h t)) A s.heap H1 locs1 → W p l e R s m args below meth c H1 locs1 (cells + mc) (slots + ms) Q (F0 m (pc + 3) ls ((g t).toList ++ rest))) : W p l e R s m args below meth c H locs cells slots Q (F0 m pc ls st0) := by
  refine lo_callVE (q0 := 0) (rest := rest) E hK hw hV hM cw wC_0 rfl (List.range' 0 145) (lw_ps wC_n) lw_nd hls hn hst hroom hdg hf (fun v w1 H1 locs1 hq hw => ?_)
  obtain ⟨t, hF, rfl, rfl⟩ := hq
  exact kk t H1 locs1 hF (lo_cast (lw_sets wC_n wC_n) hw)
/-- a call of one of the law's own methods -/
theorem lw_cL {T : Type} {F : T → Prop} {g : T → Option Value} {h : T → CZ} {y : MethodName} {bytes : ByteArray} {maxL index n mc ms : Nat} {ret : Option FieldType} {hh : List (Nat × Nat × Nat × Nat)} {wsy : List Cond} {rm : Room} {As rest : List Value} (E : CallFix p m c cc nL s args Ts own) (hK : lo_K X s) (hV : lo_Ev kS A s s.heap) (hw : lo_Wd X (wC X D Z) A s.heap H locs)
    (hM : CE l X kS y wsy rm As (wC X D Z) (fun v9 w9 => ∃ t : T, F t ∧ v9 = g t ∧ w9 = wC X D (h t)) mc ms) (cw : vx_CSW R s args own index y bytes maxL ret hh wsy rm mc ms n) (hls : ls.size = nL) (hn : As.length = n)
    (hst : st0 = As.reverse ++ rest) (hroom : (rest.map fun v => v.category).sum ≤ 8) (hdg : decode cc pc = .ok (.invokestatic index, 3)) (hf : cells + mc ≤ R.cells ∧ slots + ms ≤ R.slots)
    (kk : ∀ (t : T) (H1 : Heap) (locs1 : List Loc), F t → lo_Wd X (wC X D (h t)) A s.heap H1 locs1 → W p l e R s m args below meth c H1 locs1 (cells + mc) (slots + ms) Q (F0 m (pc + 3) ls ((g t).toList ++ rest))) : W p l e R s m args below meth c H locs cells slots Q (F0 m pc ls st0) := by
  refine lo_callSWE (rest := rest) E hK hw hV hM cw (List.range' 0 145) (lw_ps wC_n) lw_nd hls hn hst hroom hdg hf (fun v w1 H1 locs1 hq hw => ?_)
  obtain ⟨t, hF, rfl, rfl⟩ := hq
  exact kk t H1 locs1 hF (lo_cast (lw_sets wC_n wC_n) hw)
/-- .. that has no handlers -/
theorem lw_cS {T : Type} {F : T → Prop} {g : T → Option Value} {h : T → CZ} {y : MethodName} {bytes : ByteArray} {maxL index n mc ms : Nat} {ret : Option FieldType} {wsy : List Cond} {rm : Room} {As rest : List Value} (E : CallFix p m c cc nL s args Ts own) (hK : lo_K X s) (hV : lo_Ev kS A s s.heap) (hw : lo_Wd X (wC X D Z) A s.heap H locs)
    (hM : CE l X kS y wsy rm As (wC X D Z) (fun v9 w9 => ∃ t : T, F t ∧ v9 = g t ∧ w9 = wC X D (h t)) mc ms) (cw : CallB R s args own index y bytes maxL ret wsy rm mc ms n ∧ (Cond.static y).before args s = true) (hls : ls.size = nL) (hn : As.length = n)
    (hst : st0 = As.reverse ++ rest) (hroom : (rest.map fun v => v.category).sum ≤ 8) (hdg : decode cc pc = .ok (.invokestatic index, 3)) (hf : cells + mc ≤ R.cells ∧ slots + ms ≤ R.slots)
    (kk : ∀ (t : T) (H1 : Heap) (locs1 : List Loc), F t → lo_Wd X (wC X D (h t)) A s.heap H1 locs1 → W p l e R s m args below meth c H1 locs1 (cells + mc) (slots + ms) Q (F0 m (pc + 3) ls ((g t).toList ++ rest))) : W p l e R s m args below meth c H locs cells slots Q (F0 m pc ls st0) := by
  refine lo_callSE (rest := rest) E hK hw hV hM cw (List.range' 0 145) (lw_ps wC_n) lw_nd hls hn hst hroom hdg hf (fun v w1 H1 locs1 hq hw => ?_)
  obtain ⟨t, hF, rfl, rfl⟩ := hq
  exact kk t H1 locs1 hF (lo_cast (lw_sets wC_n wC_n) hw)
end LWC
set_option maxRecDepth 100000 in
theorem wC_f {X : KX} {D : AD9} {Z Z2 : CZ} : (wC X D Z).map Prod.fst = (wC X D Z2).map Prod.fst := rfl
/-! numbers of which no more is known -/
section LWF
variable {p : Program} {l : Launch} {e : Env} {R : Room} {s : State} {m : MethodId} {args : Array Value} {below : List Frame} {meth : Method} {c : Code} {H : Heap} {locs : List Loc} {cells slots : Nat} {Q : State → Prop}
variable {cc : ByteArray} {pc nL : Nat} {ls : Array Slot} {rest : List Value} {Ts : List Cond} {own : String}
theorem lw_if_ge (E : CallFix p m c cc nL s args Ts own) {x off : Int} {tgt : Nat} (hdg : decode cc pc = .ok (.ifCond .ge off, 3)) (ht : (pc : Int) + off = (tgt : Int)) (hx : i32 x) (kt : 0 ≤ x → W p l e R s m args below meth c H locs cells slots Q (F0 m tgt ls rest)) (kf : x < 0 → W p l e R s m args below meth c H locs cells slots Q (F0 m (pc + 3) ls rest)) : W p l e R s m args below meth c H locs cells slots Q (F0 m pc ls (.int (iI x) :: rest)) := lv_if_ge E.1 E.2.1 hdg ht (fun h => kt ((iI_le (a := 0) (by omega) hx).1 (by rw [← iI_z]; exact h))) (fun h => kf (by have := mt (iI_le (a := 0) (by omega) hx).2 (by rw [← iI_z]; exact h); omega))
theorem lw_int {v : Int32} (k : ∀ z : Int, i32 z → W p l e R s m args below meth c H locs cells slots Q (F0 m pc ls (.int (iI z) :: rest))) : W p l e R s m args below meth c H locs cells slots Q (F0 m pc ls (.int v :: rest)) := by
  have h := k v.toInt (i32_of v)
  rw [← iI_of] at h
  exact h
theorem lw_irem (E : CallFix p m c cc nL s args Ts own) {x y : Int} (hdg : decode cc pc = .ok (.irem, 1)) (hy : i32 y ∧ y ≠ 0) (k : ∀ z : Int, i32 z → W p l e R s m args below meth c H locs cells slots Q (F0 m (pc + 1) ls (.int (iI z) :: rest))) : W p l e R s m args below meth c H locs cells slots Q (F0 m pc ls (.int (iI y) :: .int (iI x) :: rest)) := lv_irem E.1 E.2.1 hdg (iI_ne0 hy.1 hy.2) (lw_int k)
theorem lw_idiv (E : CallFix p m c cc nL s args Ts own) {x y : Int} (hdg : decode cc pc = .ok (.idiv, 1)) (hy : i32 y ∧ y ≠ 0) (k : ∀ z : Int, i32 z → W p l e R s m args below meth c H locs cells slots Q (F0 m (pc + 1) ls (.int (iI z) :: rest))) : W p l e R s m args below meth c H locs cells slots Q (F0 m pc ls (.int (iI y) :: .int (iI x) :: rest)) := lv_idiv E.1 E.2.1 hdg (iI_ne0 hy.1 hy.2) (lw_int k)
theorem lw_iand (E : CallFix p m c cc nL s args Ts own) {x y : Int32} (hdg : decode cc pc = .ok (.iand, 1)) (k : ∀ z : Int, i32 z → W p l e R s m args below meth c H locs cells slots Q (F0 m (pc + 1) ls (.int (iI z) :: rest))) : W p l e R s m args below meth c H locs cells slots Q (F0 m pc ls (.int y :: .int x :: rest)) := lv_iand E.1 E.2.1 hdg (lw_int k)
theorem lw_ixor (E : CallFix p m c cc nL s args Ts own) {x y : Int32} (hdg : decode cc pc = .ok (.ixor, 1)) (k : ∀ z : Int, i32 z → W p l e R s m args below meth c H locs cells slots Q (F0 m (pc + 1) ls (.int (iI z) :: rest))) : W p l e R s m args below meth c H locs cells slots Q (F0 m pc ls (.int y :: .int x :: rest)) := lv_ixor E.1 E.2.1 hdg (lw_int k)
theorem lw_ishr (E : CallFix p m c cc nL s args Ts own) {x y : Int32} (hdg : decode cc pc = .ok (.ishr, 1)) (k : ∀ z : Int, i32 z → W p l e R s m args below meth c H locs cells slots Q (F0 m (pc + 1) ls (.int (iI z) :: rest))) : W p l e R s m args below meth c H locs cells slots Q (F0 m pc ls (.int y :: .int x :: rest)) := lv_ishr E.1 E.2.1 hdg (lw_int k)
theorem lw_iadd (E : CallFix p m c cc nL s args Ts own) {x y : Int32} (hdg : decode cc pc = .ok (.iadd, 1)) (k : ∀ z : Int, i32 z → W p l e R s m args below meth c H locs cells slots Q (F0 m (pc + 1) ls (.int (iI z) :: rest))) : W p l e R s m args below meth c H locs cells slots Q (F0 m pc ls (.int y :: .int x :: rest)) := lv_iadd E.1 E.2.1 hdg (lw_int k)
end LWF
