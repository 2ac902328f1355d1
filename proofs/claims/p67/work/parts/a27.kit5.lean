/-! constructors: contracts that leave new cells behind the object -/
def lo_nest : List Cond := [.methodLinkNest RX3 19 yX0_init RX7, .methodLinkNest RX3 28 yX2_init RX7, .methodLinkNest RX7 40 yX4_init RX7, .methodLinkNest RX7 50 yX2_init RX7]
/-- what stays, and what constructors ask of the tables -/
def lo_EvI (kS : Nat → Nat) (A : Nat → Prop) (U : State) (H : Heap) : Prop := lo_Ev kS A U H ∧ va_AO RX2 U ∧ va_AO RX3 U ∧ ∀ w ∈ lo_nest, va_Nw w U
theorem lo_EvI.warm {kS : Nat → Nat} {A B : Nat → Prop} {s U : State} {H : Heap} {locs : List Loc} (hW : s.WarmedH U.vm) (hS : va_S A s.heap H locs) (hF : ∀ q, B q → A q) (h : lo_EvI kS A s s.heap) : lo_EvI kS B U H := by
  obtain ⟨h1, h2, h3, h4⟩ := h
  refine ⟨h1.warm hW hS hF, h2.moved hW.alike, h3.moved hW.alike, fun w hw => ?_⟩
  have q := h4 w hw
  simp only [lo_nest, List.mem_cons, List.not_mem_nil, or_false] at hw
  rcases hw with rfl | rfl | rfl | rfl <;> exact va_Nw.warmM hW q
theorem lo_EvI.calling {kS : Nat → Nat} {A : Nat → Prop} {U : State} {H : Heap} {g : JFrame} {mk : MethodId} {a : Array Value} (h : lo_EvI kS A U H) : lo_EvI kS A (U.calling g mk a) H := by
  obtain ⟨h1, h2, h3, h4⟩ := h
  have ha : U.vm.Alike (U.calling g mk a).vm := Vm.Alike.refl U.vm
  refine ⟨h1.calling, h2.moved ha, h3.moved ha, fun w hw => ?_⟩
  have q := h4 w hw
  simp only [lo_nest, List.mem_cons, List.not_mem_nil, or_false] at hw
  rcases hw with rfl | rfl | rfl | rfl <;> exact va_Nw.same rfl (u := U) (U := U.calling g mk a) rfl q
def lo_PcI (X : KX) (kS : Nat → Nat) (as : List Value) (w0 : va_W) (sz : Nat) : Array Value → State → Prop := va_Pc as (fun U => (U.heap.size = sz ∧ va_P X.1 vwCl w0 U.heap ∧ lo_K X U ∧ va_D (fun _ => True) w0) ∧ lo_EvI kS (va_A w0 sz) U U.heap)
theorem lo_blindI (X : KX) (kS : Nat → Nat) (as : List Value) (w0 : va_W) (sz : Nat) : FrameBlind (lo_PcI X kS as w0 sz) := fun a U g mk q => by
  obtain ⟨q0, ⟨q1, qP, qK, qD⟩, qE⟩ := q
  exact ⟨q0, ⟨q1, qP, va_K.moved (u := U) (U := U.calling g mk a) (Vm.Alike.refl U.vm) qK, qD⟩, qE.calling⟩
def lo_BI (X : KX) (o : Nat) (e0 : va_E) (sz : Nat) (post : va_E → va_W → Prop) (t : State) : Prop := ∃ (e : va_E) (nw : va_W), post e nw ∧ va_P X.1 vwCl ((o, e) :: nw) t.heap ∧ lo_K X t ∧ va_D (va_A [(o, e0)] sz) ((o, e) :: nw)
def lo_QcI (X : KX) (o : Nat) (e0 : va_E) (sz : Nat) (post : va_E → va_W → Prop) : Array Value → State → Outcome → State → Prop := fun _ st oc t => (oc = .returned none ∧ lo_BI X o e0 sz post t) ∧ va_F (va_A [(o, e0)] sz) st t
def CI (l : Launch) (X : KX) (kS : Nat → Nat) (y : MethodName) (ws : List Cond) (rm : Room) (as : List Value) (o : Nat) (e0 : va_E) (post : va_E → va_W → Prop) (mc ms : Nat) : Prop :=
  ∀ sz : Nat, Met l y ws rm (lo_PcI X kS as [(o, e0)] sz) (lo_QcI X o e0 sz post) mc ms (va_A [(o, e0)] sz)
theorem lo_enterI {l : Launch} {X : KX} {kS : Nat → Nat} {y : MethodName} {ws : List Cond} {rm : Room} {as : List Value} {o : Nat} {e0 : va_E} {post : va_E → va_W → Prop} {mc ms : Nat} {ws' : List Cond} {cc : ByteArray} {maxL : Nat} {ret : Option FieldType} {lv : List (Nat × Value)} (hy : plainName y.cls = true) (hw : ws = Cond.code y cc maxL ret :: ws') (hlv : lv_args 0 as = lv) (hn : (lg_sl as).length ≤ maxL)
    (body : ∀ (p : Program) (e : Env) (s : State) (m : MethodId) (below : List Frame) (meth : Method) (c : Code) (A : Nat → Prop) (ls : Array Slot), A = va_A [(o, e0)] s.heap.size → CallFix p m c cc maxL s as.toArray ws y.cls → meth.sig.returnType = ret → meth.locks = false → lo_K X s → lv_has ls maxL lv → lo_Wd X [(o, e0)] A s.heap s.heap [] → lo_EvI kS A s s.heap → meth.name = y.name →
      W p l e rm s m as.toArray below meth c s.heap [] 0 0 (MQ below (lo_QcI X o e0 s.heap.size post) as.toArray s mc ms A) (F0 m 0 ls [])) : CI l X kS y ws rm as o e0 post mc ms := by
  intro sz
  refine Met.ofW (cc := cc) (maxL := maxL) (ret := ret) hy hw ?_
  intro p e s m args below meth c s₁ B hml hv
  obtain ⟨rfl, ⟨hsz, hP, hK, hD0⟩, hE⟩ := hv
  subst hsz
  rw [lg_entry_eq]
  have hl := lv_entry as hn
  rw [hlv] at hl
  exact body p e s m below meth c _ _ rfl ⟨B.exec, B.bytes, hml, findClass_of_methodNamed B.named, atoms_spec (ws := ws) B.pre⟩ B.returns B.notSynchronized hK hl ⟨hP, hD0.self, va_S.rf, fun q h => Or.inr h⟩ hE (name_of_methodNamed B.named B.method).1
theorem lo_refs_ext {D : va_G} {a : Nat} {c : ClassId} {n : Nat} {f g : Nat → Option Nat} {H : Heap} (h : va_at D vwCl (a, .inl (c, n, .inr (.inr (.inr (.inr f))))) H) (e : ∀ j, j < n → f j = g j) : va_at D vwCl (a, .inl (c, n, .inr (.inr (.inr (.inr g))))) H := by
  have e2 : vp_cell c (n, .inr (.inr (.inr (.inr f)))) = vp_cell c (n, .inr (.inr (.inr (.inr g)))) := by
    rw [vp_cell_q, vp_cell_q]
    unfold arrV
    congr 2
    funext j
    exact congrArg va_rf (e j.val j.isLt)
  show H[a]? = some (vp_cell c (n, .inr (.inr (.inr (.inr g)))))
  rw [← e2]
  exact h
theorem lo_Wd_extQ {X : KX} {ws : va_W} {A : Nat → Prop} {H0 H : Heap} {locs : List Loc} {q0 a n : Nat} {c : ClassId} {f g : Nat → Option Nat} {ws' : va_W} (hw : lo_Wd X ws A H0 H locs) (hq : ws[q0]? = some (a, .inl (c, n, .inr (.inr (.inr (.inr f)))))) (e : ∀ j, j < n → f j = g j) (hws : ws.set q0 (a, .inl (c, n, .inr (.inr (.inr (.inr g))))) = ws') : lo_Wd X ws' A H0 H locs := by
  subst hws
  have hl := (List.getElem?_eq_some_iff.mp hq).1
  refine ⟨fun k q hk => ?_, hw.2.1.set hq, hw.2.2⟩
  by_cases h : q0 = k
  · subst h
    rw [List.getElem?_set_self hl] at hk
    cases hk
    exact lo_refs_ext (hw.1 q0 _ hq) e
  · rw [List.getElem?_set_ne h] at hk
    exact hw.1 k q hk
section LOI
variable {p : Program} {l : Launch} {e : Env} {R : Room} {s : State} {m : MethodId} {args : Array Value} {below : List Frame} {meth : Method} {c : Code} {H : Heap} {locs : List Loc} {cells slots : Nat} {Q : State → Prop}
variable {cc : ByteArray} {pc nL : Nat} {ls : Array Slot} {rest st0 : List Value} {Ts : List Cond} {own : String} {X : KX} {ws : va_W} {A : Nat → Prop} {H0 : Heap} {kS : Nat → Nat}
theorem lo_vretI {o : Nat} {e0 e1 : va_E} {nw : va_W} {post : va_E → va_W → Prop} (E : CallFix p m c cc nL s args Ts own) (hr : meth.sig.returnType = none) (hlocks : meth.locks = false) (hK : lo_K X s) (hA : A = va_A [(o, e0)] s.heap.size) (hw : lo_Wd X ((o, e1) :: nw) A s.heap H locs) (hdg : decode cc pc = .ok (.return_, 1)) (hp : post e1 nw) :
    W p l e R s m args below meth c H locs cells slots (MQ below (lo_QcI X o e0 s.heap.size post) args s cells slots A) (F0 m pc ls []) := by
  subst hA
  exact W.vret E.1 E.2.1 hr (fun t ht hW => ⟨⟨rfl, e1, nw, hp, by rw [ht]; exact hw.1, hK.moved hW.alike, hw.2.1⟩, hw.2.2.1.F ht⟩) hw.2.2.1.2.2 hdg hlocks
theorem lo_obj (E : CallFix p m c cc nL s args Ts own) (hls : ls.size = nL) {idx a : Nat} (hlink : (Cond.methodLink own idx Lib.objectInit).before args s = true) (hinst : (Cond.instanceMethod Lib.objectInit).before args s = true) (hcode : (Cond.code Lib.objectInit ⟨#[0xb1]⟩ 1 none).before args s = true) (hdg : decode cc pc = .ok (.invokespecial idx, 3)) (hfr : 1 ≤ R.frames) (hlo : (rest.map fun v => v.category).sum + 12 ≤ R.locals) (kk : W p l e R s m args below meth c H locs cells slots Q (F0 m (pc + 3) ls rest)) : W p l e R s m args below meth c H locs cells slots Q (F0 m pc ls (.ref a :: rest)) :=
  W.objInit E.1 E.2.1 E.2.2.2.1 hlink hinst hcode rfl (hls.trans E.2.2.1.symm) rfl hdg hfr (by have h : (F0 m pc ls (.ref a :: rest)).monitorRoom = 0 := rfl; rw [h]; omega) kk
theorem lo_callIr {a : Array Value} {o : Nat} {e0 : va_E} {post : va_E → va_W → Prop} {mc ms : Nat} (q0 : Nat) (hr : va_Run p l e R s m args below meth c H locs cells slots mc ms (F0 m pc ls st0) rest (lo_QcI X o e0 H.size post a) (va_A [(o, e0)] H.size)) (hw : lo_Wd X ws A H0 H locs) (hq : ws[q0]? = some (o, e0))
    (kk : ∀ (e1 : va_E) (nw : va_W) (H1 : Heap) (locs1 : List Loc), post e1 nw → lo_Wd X (ws.set q0 (o, e1) ++ nw) A H0 H1 locs1 → W p l e R s m args below meth c H1 locs1 (cells + mc) (slots + ms) Q (F0 m (pc + 3) ls rest)) : W p l e R s m args below meth c H locs cells slots Q (F0 m pc ls st0) := by
  obtain ⟨hP, hD, hS, hA⟩ := hw
  have hps : [q0].map (fun i => ws[i]?) = [(o, e0)].map some := by show [ws[q0]?] = [some (o, e0)]; rw [hq]
  have hF := va_free hD hS hA [q0] hps
  intro T hT Xs
  obtain ⟨v, st₀, t, T', L, h0, X', hL, e1, e2, ⟨⟨hv, e9, nw, hp, hP1, hK1, hD1⟩, hz, hk⟩, st⟩ := hr T hT Xs
  cases hv
  rw [h0] at hz hk
  have hz' : H.size ≤ T'.heap.size := by rw [e1]; exact hz
  have hk' : ∀ q : Nat, q < H.size → ¬ va_A [(o, e0)] H.size q → T'.heap[q]? = H[q]? := fun q h1 h2 => by rw [e1]; exact hk q h1 h2
  have hP1' : va_P X.1 vwCl ((o, e9) :: nw) T'.heap := by rw [e1]; exact hP1
  have hP3 : va_P X.1 vwCl [(o, e9)] T'.heap := fun k q hk => by
    have hz : k < 1 := (List.getElem?_eq_some_iff.mp hk).1
    rw [show k = 0 by omega] at hk
    exact hP1' 0 q hk
  have hPn : va_P X.1 vwCl nw T'.heap := fun k q hk => hP1' (k + 1) q hk
  have hnew : ∀ (k : Nat) (q : Nat × va_E), nw[k]? = some q → H.size ≤ q.1 := fun k q hk => by
    rcases hD1.2 (k + 1) q hk with ⟨j, e, h⟩ | h
    · have hj : j < 1 := (List.getElem?_eq_some_iff.mp h).1
      rw [show j = 0 by omega] at h
      have ho : o = q.1 := (Prod.mk.inj (Option.some.inj h)).1
      have := hD1.1 0 (k + 1) (o, e9) q rfl hk ho
      omega
    · exact h
  obtain ⟨hP2, hD2⟩ := lo_sets_P (w1 := [(o, e9)]) hP hD hps (by simp [va_nd]) rfl hP3 hk'
  have hlt : ∀ (k : Nat) (q : Nat × va_E), (ws.set q0 (o, e9))[k]? = some q → q.1 < H.size := fun k q hk => by
    by_cases h : q0 = k
    · subst h
      have hl := (List.getElem?_eq_some_iff.mp hq).1
      rw [List.getElem?_set_self hl] at hk
      cases hk
      exact (hP q0 _ hq).lt
    · rw [List.getElem?_set_ne h] at hk
      exact (hP k q hk).lt
  have hDn : va_D A nw := ⟨fun i j x y hi hj e => by have := hD1.1 (i + 1) (j + 1) x y hi hj e; omega, fun k q hk => hA _ (Nat.le_trans hS.1 (hnew k q hk))⟩
  obtain ⟨t2, a1, b1⟩ := kk e9 nw T'.heap (locs ++ L) hp ⟨va_P.app hP2 hPn, va_D.app hD2 hDn (fun i j x y hi hj e => by have := hlt i x hi; have := hnew j y hj; omega), ⟨Nat.le_trans hS.1 hz', fun q h1 h2 => by
      rw [hk' q (Nat.lt_of_lt_of_le h1 hS.1) (fun z => h2 (hF q z))]; exact hS.2.1 q h1 h2, fun q hq => by
      rcases List.mem_append.mp hq with h | h
      · exact hS.2.2 q h
      · exact hF _ (hL q h)⟩, hA⟩ T' rfl X'
  exact ⟨t2, st t2 a1, b1⟩
theorem lo_preI {o : Nat} {e0 : va_E} {as : List Value} (q0 : Nat) (hK : lo_K X s) (hw : lo_Wd X ws A s.heap H locs) (hV : lo_EvI kS A s s.heap) (hq : ws[q0]? = some (o, e0)) : ∀ U : State, U.heap = H → s.WarmedH U.vm → lo_PcI X kS as [(o, e0)] H.size as.toArray U := by
  intro U hU hW
  have hps : [q0].map (fun i => ws[i]?) = [(o, e0)].map some := by show [ws[q0]?] = [some (o, e0)]; rw [hq]
  obtain ⟨q0', q1⟩ := lo_pre (as := as) [q0] hK hw hps (by simp [va_nd]) U hU hW
  exact ⟨q0', q1, by rw [hU]; exact hV.warm hW hw.2.2.1 (va_free hw.2.1 hw.2.2.1 hw.2.2.2 [q0] hps)⟩
theorem lo_callI {y : MethodName} {bytes : ByteArray} {maxL index n mc ms q0 : Nat} {wsy : List Cond} {rm : Room} {o : Nat} {e0 : va_E} {As rest : List Value} {post : va_E → va_W → Prop} (E : CallFix p m c cc nL s args Ts own) (hK : lo_K X s) (hw : lo_Wd X ws A s.heap H locs) (hV : lo_EvI kS A s s.heap)
    (hM : CI l X kS y wsy rm (.ref o :: As) o e0 post mc ms) (cw : CallB R s args own index y bytes maxL none wsy rm mc ms n ∧ y.name = "<init>" ∧ (Cond.instanceMethod y).before args s = true) (hq : ws[q0]? = some (o, e0)) (hls : ls.size = nL) (hn : As.length = n)
    (hst : st0 = As.reverse ++ .ref o :: rest) (hroom : (rest.map fun v => v.category).sum ≤ 8) (hdg : decode cc pc = .ok (.invokespecial index, 3)) (hf : cells + mc ≤ R.cells ∧ slots + ms ≤ R.slots)
    (kk : ∀ (e1 : va_E) (nw : va_W) (H1 : Heap) (locs1 : List Loc), post e1 nw → lo_Wd X (ws.set q0 (o, e1) ++ nw) A s.heap H1 locs1 → W p l e R s m args below meth c H1 locs1 (cells + mc) (slots + ms) Q (F0 m (pc + 3) ls rest)) : W p l e R s m args below meth c H locs cells slots Q (F0 m pc ls st0) :=
  lo_callIr (rest := rest) q0 (va_runI E (hM H.size) cw ⟨lo_blindI X kS _ _ H.size, fun U hU hW => lo_preI q0 hK hw hV hq U hU hW⟩ rfl hn hls hst (lv_room hroom) hdg hf) hw hq kk
theorem lo_callIN {y : MethodName} {bytes : ByteArray} {maxL index n mc ms q0 : Nat} {wsy : List Cond} {rm : Room} {o : Nat} {e0 : va_E} {host : String} {As rest : List Value} {post : va_E → va_W → Prop} (E : CallFix p m c cc nL s args Ts own) (hK : lo_K X s) (hw : lo_Wd X ws A s.heap H locs) (hV : lo_EvI kS A s s.heap)
    (hM : CI l X kS y wsy rm (.ref o :: As) o e0 post mc ms) (cw : va_CN R s args own index y host bytes maxL none wsy rm mc ms n ∧ y.name = "<init>" ∧ (Cond.instanceMethod y).before args s = true) (hq : ws[q0]? = some (o, e0)) (hls : ls.size = nL) (hn : As.length = n)
    (hst : st0 = As.reverse ++ .ref o :: rest) (hroom : (rest.map fun v => v.category).sum ≤ 8) (hdg : decode cc pc = .ok (.invokespecial index, 3)) (hf : cells + mc ≤ R.cells ∧ slots + ms ≤ R.slots)
    (kk : ∀ (e1 : va_E) (nw : va_W) (H1 : Heap) (locs1 : List Loc), post e1 nw → lo_Wd X (ws.set q0 (o, e1) ++ nw) A s.heap H1 locs1 → W p l e R s m args below meth c H1 locs1 (cells + mc) (slots + ms) Q (F0 m (pc + 3) ls rest)) : W p l e R s m args below meth c H locs cells slots Q (F0 m pc ls st0) :=
  lo_callIr (rest := rest) q0 (va_runIN E (hM H.size) cw ⟨lo_blindI X kS _ _ H.size, fun U hU hW => lo_preI q0 hK hw hV hq U hU hW⟩ rfl hn hls hst (lv_room hroom) hdg hf) hw hq kk
theorem lo_newO (E : CallFix p m c cc nL s args Ts own) (hK : lo_K X s) (hw : lo_Wd X ws A H0 H locs) {C : String} {T : u_T} {N ci index : Nat} (hin : ∀ w ∈ u_ws C T N, w ∈ Ts) (ty : Nat → FieldType) (hty : ∀ k, k < N → parseFieldDescriptor (T k).2.2.1 = some (ty k)) (hcl : (Cond.classLink own index C).before args s = true) (hinst : (Cond.instantiable C N).before args s = true) (hini : (Cond.initialized C).before args s = true) (hc : vwCl[ci]? = some (C, T, N)) {fs : List Value} (hfs : ∀ j, j < N → defaultValue (ty j) = vp_V fs j) (hcells : cells + 1 ≤ R.cells) (hslots : slots + N ≤ R.slots) (hdg : decode cc pc = .ok (.new index, 3))
    (kk : ∀ (q : Nat) (H1 : Heap), lo_Wd X (ws ++ [(q, .inr (ci, fs))]) A H0 H1 locs → W p l e R s m args below meth c H1 locs (cells + 1) (slots + N) Q (F0 m (pc + 3) ls (.ref q :: rest))) : W p l e R s m args below meth c H locs cells slots Q (F0 m pc ls rest) :=
  va_new E.1 E.2.1 E.2.2.2.2 hin ty hty E.2.2.2.1 hcl hinst hini hK hw.1 hw.2.1 hw.2.2.1 hw.2.2.2 hc hfs hcells hslots hdg (fun q H1 h1 h2 h3 => kk q H1 ⟨h1, h2, h3, hw.2.2.2⟩)
theorem lo_newI (E : CallFix p m c cc nL s args Ts own) (hK : lo_K X s) (hw : lo_Wd X ws A H0 H locs) (harr : (Cond.arrayClass .int).before args s = true) {n : Int} {N : Nat} (hn : i32 n ∧ 0 ≤ n) (hN : n.toNat = N) (hb : N ≤ 100000) (hcells : cells + 1 ≤ R.cells) (hslots : slots + N ≤ R.slots) (hdg : decode cc pc = .ok (.newarray .int, 2))
    (kk : ∀ (q : Nat) (H1 : Heap), lo_Wd X (ws ++ [arI X q N (fun _ => 0)]) A H0 H1 locs → W p l e R s m args below meth c H1 locs (cells + 1) (slots + N) Q (F0 m (pc + 2) ls (.ref q :: rest))) : W p l e R s m args below meth c H locs cells slots Q (F0 m pc ls (.int (iI n) :: rest)) :=
  va_newa (atype := .int) (ty := .int) E.1 E.2.1 harr rfl hK hw.1 hw.2.1 hw.2.2.1 hw.2.2.2 (a0 := (N, .inl (aI (fun _ => 0)))) (fun cA => rfl) (by rw [Int32.lt_iff_toInt_lt, iI_toInt hn.1]; show ¬ n < 0; omega) (by rw [iI_cl hn.1]; exact hN) (by show N * 4 ≤ 536870912; omega) hcells hslots hdg (fun q cA H1 hK1 h1 h2 h3 => by
    have e1 : s.vm.findClass ("[" ++ (FieldType.int).toString) = some cA := (hK1.2 4 (cA, .int) rfl).2
    have e2 : s.vm.findClass ("[" ++ (FieldType.int).toString) = some X.cI := (hK.2 1 (X.cI, .int) rfl).2
    have e3 : cA = X.cI := Option.some.inj (e1.symm.trans e2)
    subst e3
    exact kk q H1 ⟨h1, h2, h3, hw.2.2.2⟩)
theorem lo_newB (E : CallFix p m c cc nL s args Ts own) (hK : lo_K X s) (hw : lo_Wd X ws A H0 H locs) (harr : (Cond.arrayClass .byte).before args s = true) {n : Int} {N : Nat} (hn : i32 n ∧ 0 ≤ n) (hN : n.toNat = N) (hb : N ≤ 100000) (hcells : cells + 1 ≤ R.cells) (hslots : slots + N ≤ R.slots) (hdg : decode cc pc = .ok (.newarray .byte, 2))
    (kk : ∀ (q : Nat) (H1 : Heap), lo_Wd X (ws ++ [arB X q N (fun _ => 0)]) A H0 H1 locs → W p l e R s m args below meth c H1 locs (cells + 1) (slots + N) Q (F0 m (pc + 2) ls (.ref q :: rest))) : W p l e R s m args below meth c H locs cells slots Q (F0 m pc ls (.int (iI n) :: rest)) :=
  va_newa (atype := .byte) (ty := .byte) E.1 E.2.1 harr rfl hK hw.1 hw.2.1 hw.2.2.1 hw.2.2.2 (a0 := (N, .inl (aI (fun _ => 0)))) (fun cA => rfl) (by rw [Int32.lt_iff_toInt_lt, iI_toInt hn.1]; show ¬ n < 0; omega) (by rw [iI_cl hn.1]; exact hN) (by show N * 1 ≤ 536870912; omega) hcells hslots hdg (fun q cA H1 hK1 h1 h2 h3 => by
    have e1 : s.vm.findClass ("[" ++ (FieldType.byte).toString) = some cA := (hK1.2 4 (cA, .byte) rfl).2
    have e2 : s.vm.findClass ("[" ++ (FieldType.byte).toString) = some X.cB := (hK.2 0 (X.cB, .byte) rfl).2
    have e3 : cA = X.cB := Option.some.inj (e1.symm.trans e2)
    subst e3
    exact kk q H1 ⟨h1, h2, h3, hw.2.2.2⟩)
abbrev arZ (a : Nat) (c : ClassId) (n : Nat) (f : Nat → Option Nat) : Nat × va_E := (a, .inl (c, n, .inr (.inr (.inr (.inr f)))))
theorem lo_newQ (E : CallFix p m c cc nL s args Ts own) (hK : lo_K X s) (hw : lo_Wd X ws A H0 H locs) {C : String} {cQ : ClassId} (t0 : Nat) (ht : (lo_tys X)[t0]? = some (cQ, .object C)) {index : Nat} (hcl : (Cond.classLink own index C).before args s = true) (hover : va_AO C s) {n : Int} {N : Nat} (hn : i32 n ∧ 0 ≤ n) (hN : n.toNat = N) (hb : N ≤ 100000) (hcells : cells + 1 ≤ R.cells) (hslots : slots + N ≤ R.slots) (hdg : decode cc pc = .ok (.anewarray index, 3))
    (kk : ∀ (q : Nat) (H1 : Heap), lo_Wd X (ws ++ [arZ q cQ N (fun _ => none)]) A H0 H1 locs → W p l e R s m args below meth c H1 locs (cells + 1) (slots + N) Q (F0 m (pc + 3) ls (.ref q :: rest))) : W p l e R s m args below meth c H locs cells slots Q (F0 m pc ls (.int (iI n) :: rest)) :=
  va_newq E.1 E.2.1 E.2.2.2.1 hcl hover hK hw.1 hw.2.1 hw.2.2.1 hw.2.2.2 (by rw [Int32.lt_iff_toInt_lt, iI_toInt hn.1]; show ¬ n < 0; omega) (by rw [iI_cl hn.1]; exact hN) (by omega) hcells hslots hdg (fun q cA H1 hK1 h1 h2 h3 => by
    obtain ⟨-, -, -, -, -, e1⟩ := (hK1.2 4 (cA, .object C) rfl).2
    obtain ⟨-, -, -, -, -, e2⟩ := (hK.2 t0 (cQ, .object C) ht).2
    have e3 : cA = cQ := Option.some.inj (e1.symm.trans e2)
    subst e3
    exact kk q H1 ⟨h1, h2, h3, hw.2.2.2⟩)
theorem lo_astQ (E : CallFix p m c cc nL s args Ts own) (hK : lo_K X s) (hw : lo_Wd X ws A H0 H locs) {r : vw_C} {cQ : ClassId} (t0 ci : Nat) (ht : (lo_tys X)[t0]? = some (cQ, .object r.1)) (hc : vwCl[ci]? = some r) (q0 qk : Nat) {a n v : Nat} {vs : List Value} {f : Nat → Option Nat} (ha : ws[q0]? = some (arZ a cQ n f)) (hv : ws[qk]? = some (v, .inr (ci, vs))) {z : Int} (hz : i32 z ∧ 0 ≤ z ∧ z < (n : Int)) {ws' : va_W} (hws : ws.set q0 (arZ a cQ n (va_up f z.toNat (some v))) = ws') (hdg : decode cc pc = .ok (.aastore, 1))
    (kk : ∀ (H1 : Heap) (locs1 : List Loc), lo_Wd X ws' A H0 H1 locs1 → W p l e R s m args below meth c H1 locs1 cells slots Q (F0 m (pc + 1) ls rest)) : W p l e R s m args below meth c H locs cells slots Q (F0 m pc ls (.ref v :: .int (iI z) :: .ref a :: rest)) :=
  va_astq E.1 E.2.1 hK hw.1 hw.2.1 hw.2.2.1 q0 t0 qk ci ha ht hv hc (iI_in hz.1 hz.2.1 hz.2.2) hdg (fun H1 locs1 h1 h2 h3 => by
    rw [iI_cl hz.1] at h1 h2
    exact kk H1 locs1 ⟨hws ▸ h1, hws ▸ h2, h3, hw.2.2.2⟩)
theorem lo_putF (E : CallFix p m c cc nL s args Ts own) (hK : lo_K X s) (hw : lo_Wd X ws A H0 H locs) {ref C : String} {T : u_T} {N ci index a : Nat} (hin : ∀ w ∈ u_ws C T N, w ∈ Ts) (ty0 : Nat → FieldType) (hty : ∀ k, k < N → parseFieldDescriptor (T k).2.2.1 = some (ty0 k)) (hnm : ∀ a, a < N → ∀ b, b < N → a ≠ b → (T a).2.1 ≠ (T b).2.1) (k : Nat) (hlink : (Cond.fieldLink own index ref (T k).2.1 (T k).2.2.1).before args s = true) (href : ref = (T k).1) (q0 : Nat) {fs : List Value} (he : ws[q0]? = some (a, .inr (ci, fs))) (hc : vwCl[ci]? = some (C, T, N)) (hk : k < N) (hfin : (T k).2.2.2 = true) (hin2 : meth.name = "<init>") (hdecl : (T k).1 = own) {ty : FieldType} {v : Value} (hd : ty0 k = ty) (hn : narrow ty v = v) (hfit : fits ty v = true) (hl : k < fs.length) {ws' : va_W} (hws : ws.set q0 (a, .inr (ci, fs.set k v)) = ws') (hdg : decode cc pc = .ok (.putfield index, 3))
    (kk : ∀ (H1 : Heap) (locs1 : List Loc), lo_Wd X ws' A H0 H1 locs1 → W p l e R s m args below meth c H1 locs1 cells slots Q (F0 m (pc + 3) ls rest)) : W p l e R s m args below meth c H locs cells slots Q (F0 m pc ls (v :: .ref a :: rest)) :=
  va_putF E.1 E.2.1 E.2.2.2.2 hin ty0 hty hnm E.2.2.2.1 hK hw.1 hw.2.1 hw.2.2.1 q0 he hc k hk hlink (fun _ h => by rw [href]; exact h) hfin hin2 hdecl (by rw [hty k hk, hd]) hn hfit hl hdg (fun H1 locs1 h1 h2 h3 => kk H1 locs1 ⟨hws ▸ h1, hws ▸ h2, h3, hw.2.2.2⟩)
end LOI
def pk6 (a b c d e f : Nat) : Nat → Nat := fun j => if j = 0 then a else if j = 1 then b else if j = 2 then c else if j = 3 then d else if j = 4 then e else f
