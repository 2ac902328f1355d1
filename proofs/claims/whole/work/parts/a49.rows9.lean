/-! the law: contracts of its own methods with handlers, a long array's cell beside the worlds, the script's cells -/
abbrev arJ (cJ : ClassId) (a n : Nat) (g : Nat → Int64) : Nat × va_E := (a, .inl (cJ, n, .inr (.inl g)))
def lo_J (X : KX) (cJ : ClassId) (U : State) : Prop := va_K X.1 vwCl [(cJ, .long)] U ∧ va_Nc "java/lang/IllegalStateException" "java/lang/IndexOutOfBoundsException" U ∧ va_Nc "java/lang/IllegalStateException" "java/lang/IllegalArgumentException" U ∧ va_Nc "java/lang/IllegalArgumentException" "java/lang/IndexOutOfBoundsException" U
theorem lo_J.moved {X : KX} {cJ : ClassId} {u U : State} (hvm : u.vm.Alike U.vm) (h : lo_J X cJ u) : lo_J X cJ U := ⟨va_K.moved hvm h.1, h.2.1.moved hvm, h.2.2.1.moved hvm, h.2.2.2.moved hvm⟩
def lo_PcL (X : KX) (cJ : ClassId) (kS : Nat → Nat) (as : List Value) (w0 : va_W) (sz : Nat) : Array Value → State → Prop := fun a U => lo_PcE X kS as w0 sz a U ∧ lo_J X cJ U
theorem lo_blindL (X : KX) (cJ : ClassId) (kS : Nat → Nat) (as : List Value) (w0 : va_W) (sz : Nat) : FrameBlind (lo_PcL X cJ kS as w0 sz) := fun a U g mk q => ⟨lo_blindE X kS as w0 sz a U g mk q.1, q.2.moved (u := U) (U := U.calling g mk a) (Vm.Alike.refl U.vm)⟩
def CL (l : Launch) (X : KX) (cJ : ClassId) (kS : Nat → Nat) (y : MethodName) (ws : List Cond) (rm : Room) (as : List Value) (w0 : va_W) (post : Option Value → va_W → Prop) (mc ms : Nat) : Prop :=
  ∀ sz : Nat, Met l y ws rm (lo_PcL X cJ kS as w0 sz) (lo_Qc X w0 sz post) mc ms (va_A w0 sz)
theorem lo_enterL {l : Launch} {X : KX} {cJ : ClassId} {kS : Nat → Nat} {y : MethodName} {ws ws' : List Cond} {rm : Room} {cc : ByteArray} {maxL mc ms : Nat} {ret : Option FieldType} {hh : List (Nat × Nat × Nat × Nat)} {as : List Value} {w0 : va_W} {post : Option Value → va_W → Prop} {lv : List (Nat × Value)} (hy : plainName y.cls = true) (hw : ws = Cond.codeWith y cc maxL ret hh :: ws') (hlv : lv_args 0 as = lv) (hn : (lg_sl as).length ≤ maxL)
    (body : ∀ (p : Program) (e : Env) (s : State) (m : MethodId) (below : List Frame) (meth : Method) (c : Code) (A : Nat → Prop) (ls : Array Slot), A = va_A w0 s.heap.size → CallFix p m c cc maxL s as.toArray ws y.cls → meth.sig.returnType = ret → meth.locks = false → lo_K X s → lv_has ls maxL lv → lo_Wd X w0 A s.heap s.heap [] → lo_Ev kS A s s.heap → c.exceptionTable.toList = tableOf hh → lo_J X cJ s →
      W p l e rm s m as.toArray below meth c s.heap [] 0 0 (MQ below (lo_Qc X w0 s.heap.size post) as.toArray s mc ms A) (F0 m 0 ls [])) : CL l X cJ kS y ws rm as w0 post mc ms := by
  intro sz
  refine va_MetW (cc := cc) (maxL := maxL) (ret := ret) (hh := hh) hy hw ?_
  intro p e s m args below meth c s₁ B hml hv
  obtain ⟨⟨rfl, ⟨hsz, hP, hK, hD0⟩, hE⟩, hJ⟩ := hv
  subst hsz
  rw [lg_entry_eq]
  have hl := lv_entry as hn
  rw [hlv] at hl
  exact body p e s m below meth c _ _ rfl ⟨B.exec, B.bytes, hml, findClass_of_methodNamed B.named, atoms_spec (ws := ws) B.pre⟩ B.returns B.notSynchronized hK hl ⟨hP, hD0.self, va_S.rf, fun q h => Or.inr h⟩ hE (vx_table (x := y) B (atoms_spec (ws := ws) B.pre _ (by rw [hw]; exact List.mem_cons_self))) hJ
section LOJ
variable {p : Program} {l : Launch} {e : Env} {R : Room} {s : State} {m : MethodId} {args : Array Value} {below : List Frame} {meth : Method} {c : Code} {H : Heap} {locs : List Loc} {cells slots : Nat} {Q : State → Prop}
variable {cc : ByteArray} {pc nL : Nat} {ls : Array Slot} {rest st0 : List Value} {Ts : List Cond} {own : String} {X : KX} {cJ : ClassId} {kS : Nat → Nat} {ws : va_W} {A : Nat → Prop} {H0 : Heap}
/-- the caught, at its handler -/
theorem lo_catch {name E0 : String} {ce : Cell} {q : Addr} (E : CallFix p m c cc nL s args Ts own) (pre : List ExceptionTableEntry) (x : ExceptionTableEntry) (suf : List ExceptionTableEntry) (hsplit : c.exceptionTable.toList = pre ++ x :: suf)
    (hpass : ∀ z ∈ pre, covers z pc = false ∨ (z.catchType ≠ 0 ∧ ∃ nm : String, (Cond.classLink own z.catchType nm).before args s = true ∧ va_Nc E0 nm s)) (hx : covers x pc = true) (h0 : x.catchType ≠ 0)
    (hlink : (Cond.classLink own x.catchType name).before args s = true) (hcast : va_Nw (.castable E0 name) s) (hcell : H[q]? = some ce) (hv : ce.vm = .none) (hcl : s.vm.findClass E0 = some ce.cls)
    (kk : W p l e R s m args below meth c H locs cells slots Q (F0 m x.handlerPc ls [.ref q])) : vx_W p l e R s m args below meth c H locs cells slots Q (F0 m pc ls rest) q :=
  vx_catch E.2.2.2.1 pre x suf hsplit hpass hx h0 hlink (va_Nw.use (A := args) rfl hcast) hcell hv hcl kk
theorem lo_last (E : CallFix p m c cc nL s args Ts own) (hJ : lo_J X cJ s) (hw : lo_Wd X ws A H0 H locs) (q0 : Nat) {a : Nat} {g : Nat → Int64} (ha : ws[q0]? = some (arJ cJ a 1 g)) {v : Int64} (hdg : decode cc pc = .ok (.lastore, 1))
    (kk : ∀ (H1 : Heap) (locs1 : List Loc) (f : Nat → Int64), f 0 = v → lo_Wd X (ws.set q0 (arJ cJ a 1 f)) A H0 H1 locs1 → W p l e R s m args below meth c H1 locs1 cells slots Q (F0 m (pc + 1) ls rest)) : W p l e R s m args below meth c H locs cells slots Q (F0 m pc ls (.long v :: .int (iI 0) :: .ref a :: rest)) :=
  va_last E.1 E.2.1 hJ.1 hw.1 hw.2.1 hw.2.2.1 q0 0 ha rfl (iI_in (by omega) (by omega) (by omega)) hdg (fun H1 locs1 h1 h2 h3 => kk H1 locs1 _ rfl ⟨h1, h2, h3, hw.2.2.2⟩)
theorem lo_lald (E : CallFix p m c cc nL s args Ts own) (hJ : lo_J X cJ s) (hw : lo_Wd X ws A H0 H locs) (q0 : Nat) {a : Nat} {g : Nat → Int64} (ha : ws[q0]? = some (arJ cJ a 1 g)) (hdg : decode cc pc = .ok (.laload, 1))
    (kk : W p l e R s m args below meth c H locs cells slots Q (F0 m (pc + 1) ls (.long (g 0) :: rest))) : W p l e R s m args below meth c H locs cells slots Q (F0 m pc ls (.int (iI 0) :: .ref a :: rest)) :=
  va_lald E.1 E.2.1 hJ.1 hw.1 q0 0 ha rfl (iI_in (by omega) (by omega) (by omega)) hdg kk
/-- a call of one of the law's own methods -/
theorem lo_callSL {y : MethodName} {bytes : ByteArray} {maxL index n mc ms : Nat} {ret : Option FieldType} {hh : List (Nat × Nat × Nat × Nat)} {wsy : List Cond} {rm : Room} {As rest : List Value} {w0 : va_W} {post : Option Value → va_W → Prop} (E : CallFix p m c cc nL s args Ts own) (hK : lo_K X s) (hw : lo_Wd X ws A s.heap H locs) (hV : lo_Ev kS A s s.heap) (hJ : lo_J X cJ s)
    (hM : CL l X cJ kS y wsy rm As w0 post mc ms) (cw : vx_CSW R s args own index y bytes maxL ret hh wsy rm mc ms n) (ps : List Nat) (hps : ps.map (fun i => ws[i]?) = w0.map some) (hnd : va_nd ps = true) (hls : ls.size = nL) (hn : As.length = n)
    (hst : st0 = As.reverse ++ rest) (hroom : (rest.map fun v => v.category).sum ≤ 8) (hdg : decode cc pc = .ok (.invokestatic index, 3)) (hf : cells + mc ≤ R.cells ∧ slots + ms ≤ R.slots)
    (kk : ∀ (v : Option Value) (w1 : va_W) (H1 : Heap) (locs1 : List Loc), post v w1 → lo_Wd X (lo_sets ws ps w1) A s.heap H1 locs1 → W p l e R s m args below meth c H1 locs1 (cells + mc) (slots + ms) Q (F0 m (pc + 3) ls (v.toList ++ rest))) : W p l e R s m args below meth c H locs cells slots Q (F0 m pc ls st0) :=
  lo_call (rest := rest) ps (vx_runSW E (hM H.size) cw ⟨lo_blindL X cJ kS _ w0 H.size, fun U hU hW => ⟨lo_preE ps hK hw hV hps hnd U hU hW, hJ.moved hW.alike⟩⟩ rfl hn hls hst (lv_room hroom) hdg hf) hw hps hnd kk
end LOJ
/-! cells at the head, and behind them -/
theorem lo_ps_hd {a b : va_W} {n : Nat} (h : a.length = n) : (List.range' 0 n).map (fun i => (a ++ b)[i]?) = a.map some := by
  subst h
  apply List.ext_getElem?
  intro i
  rw [List.getElem?_map, List.getElem?_map]
  by_cases c : i < a.length
  · rw [List.getElem?_range' c, Option.map_some, show 0 + 1 * i = i by omega, List.getElem?_append_left c, List.getElem?_eq_getElem c]
    rfl
  · rw [List.getElem?_eq_none (by rw [List.length_range']; omega), List.getElem?_eq_none (by omega)]
    rfl
theorem lo_sets_all : ∀ (c a b : va_W) (k : Nat), c.length = a.length → k = b.length → lo_sets (b ++ a) (List.range' k c.length) c = b ++ c
  | [], a, b, k, h, _ => by
    have e : a = [] := List.length_eq_zero_iff.mp h.symm
    rw [e]; rfl
  | x :: c, [], b, k, h, _ => by cases h
  | x :: c, y :: a, b, k, h, hk => by
    subst hk
    show lo_sets ((b ++ y :: a).set b.length x) (List.range' (b.length + 1) c.length) c = b ++ x :: c
    have e : (b ++ y :: a).set b.length x = (b ++ [x]) ++ a := by
      rw [List.set_append_right _ _ (Nat.le_refl _), Nat.sub_self, List.set_cons_zero, List.append_assoc]; rfl
    rw [e, lo_sets_all c a (b ++ [x]) (b.length + 1) (Nat.succ.inj h) (by rw [List.length_append]; rfl), List.append_assoc]
    rfl
theorem lo_sets_hd {a b c : va_W} {n : Nat} (h : a.length = n) (hc : c.length = n) : lo_sets (a ++ b) (List.range' 0 n) c = c ++ b := by
  have k := lo_sets_app (List.range' 0 n) a b c (fun p hp => by rw [List.mem_range'_1] at hp; omega)
  rw [k]
  have k2 := lo_sets_all c a [] 0 (by rw [h, hc]) rfl
  rw [hc] at k2
  rw [List.nil_append, List.nil_append] at k2
  rw [k2]
theorem lo_ps_tl {a b : va_W} {n k : Nat} (ha : a.length = k) (h : b.length = n) : (List.range' k n).map (fun i => (a ++ b)[i]?) = b.map some := by
  subst ha; subst h
  apply List.ext_getElem?
  intro i
  rw [List.getElem?_map, List.getElem?_map]
  by_cases c : i < b.length
  · rw [List.getElem?_range' c, Option.map_some, show a.length + 1 * i = a.length + i by omega, List.getElem?_append_right (Nat.le_add_right _ _), Nat.add_sub_cancel_left, List.getElem?_eq_getElem c]
    rfl
  · rw [List.getElem?_eq_none (by rw [List.length_range']; omega), List.getElem?_eq_none (by omega)]
    rfl
theorem lo_sets_tl {a b c : va_W} {n k : Nat} (ha : a.length = k) (h : b.length = n) (hc : c.length = n) : lo_sets (a ++ b) (List.range' k n) c = a ++ c := by
  have k2 := lo_sets_all c b a k (by rw [h, hc]) ha.symm
  rw [hc] at k2
  exact k2
set_option maxRecDepth 100000 in
theorem clB_n {X : KX} {ad pa pb qa qb ra rb : Nat → Nat} {ha hb : Nat → Nat → Nat} {Z : CZ} : (clB X ad pa pb qa qb ra rb ha hb Z).flatten.length = 145 := rfl
theorem rfB_n {X : KX} {d rr : Nat → Nat} {Y : RZ} : (rfB X d rr Y).flatten.length = 16 := rfl
abbrev exE (q : Nat × Nat × Nat × Nat) : ExceptionTableEntry := (tableOf [q])[0]'(Nat.zero_lt_one)
theorem pass0 {P : ExceptionTableEntry → Prop} : ∀ z ∈ ([] : List ExceptionTableEntry), P z := fun _ h => absurd h List.not_mem_nil
theorem pass1 {P : ExceptionTableEntry → Prop} {x : ExceptionTableEntry} (h : P x) : ∀ z ∈ [x], P z := fun z hz => by rw [List.mem_singleton.mp hz]; exact h
theorem pass2 {P : ExceptionTableEntry → Prop} {x y : ExceptionTableEntry} (h : P x) (h2 : P y) : ∀ z ∈ [x, y], P z := fun z hz => by
  rcases List.mem_cons.mp hz with e | e
  · rw [e]; exact h
  · rw [List.mem_singleton.mp e]; exact h2
def bL (z : Int) : Int64 := if iI z = 0 then iL 0 else iL 1
