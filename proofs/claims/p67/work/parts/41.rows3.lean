/-! more rows: bytes, bits, references into arrays of arrays, texts, floats' loads; ends by a reference -/
/-- a byte of a number -/
def bI (z : Int) : Int := (z + 128) % 256 - 128
theorem bI_r (z : Int) : -128 ≤ bI z ∧ bI z ≤ 127 := by unfold bI; omega
theorem bI_id {z : Int} (h : -128 ≤ z ∧ z ≤ 127) : bI z = z := by unfold bI; omega
theorem iI_b (z : Int) : (iI z).toInt8.toInt32 = iI (bI z) := by
  have h : (iI z).toInt8 = Int8.ofInt z := by
    show (Int32.ofInt z).toInt8 = _
    exact Int32.toInt8_ofInt
  have hb := bI_r z
  have hz : i32 (bI z) := ⟨by omega, by omega⟩
  rw [h, ← Int32.toInt_inj, Int8.toInt_toInt32, iI_toInt hz, Int8.toInt_ofInt]
  unfold bI
  have e : ((Int8.size : Nat) : Int) = 256 := rfl
  simp only [Int.bmod_def, e]
  omega
theorem iI_c {z : Int} (h : 0 ≤ z ∧ z < 65536) : ((iI z).toUInt32 % 65536).toInt32 = iI z := by
  rw [← Int32.toInt_inj, iI_toInt ⟨by omega, by omega⟩]
  have e : (iI z).toUInt32 = UInt32.ofNat z.toNat := by
    show (Int32.ofInt z).toUInt32 = _
    obtain ⟨k, rfl⟩ : ∃ k : Nat, z = k := ⟨z.toNat, by omega⟩
    rw [Int32.ofInt_eq_ofNat]
    rfl
  rw [e]
  have hk : z.toNat < 65536 := by omega
  have e2 : UInt32.ofNat z.toNat % 65536 = UInt32.ofNat z.toNat := by
    rw [← UInt32.toNat_inj, UInt32.toNat_mod]
    show z.toNat % 2 ^ 32 % 65536 = z.toNat % 2 ^ 32
    omega
  rw [e2]
  show (UInt32.ofNat z.toNat).toInt32.toInt = z
  have e3 : (UInt32.ofNat z.toNat).toInt32 = Int32.ofNat z.toNat := rfl
  rw [e3, Int32.toInt_ofNat_of_lt (by omega)]
  omega
section LOT
variable {p : Program} {l : Launch} {e : Env} {R : Room} {s : State} {m : MethodId} {args : Array Value} {below : List Frame} {meth : Method} {c : Code} {H : Heap} {locs : List Loc} {cells slots : Nat} {Q : State → Prop}
variable {cc : ByteArray} {pc nL : Nat} {ls : Array Slot} {rest st0 : List Value} {Ts : List Cond} {own : String} {X : KX} {kS : Nat → Nat} {ws : va_W} {A : Nat → Prop} {H0 : Heap}
theorem lo_bald (E : CallFix p m c cc nL s args Ts own) (hK : lo_K X s) (hw : lo_Wd X ws A H0 H locs) (q0 : Nat) {n a : Nat} {g : Nat → Int} (ha : ws[q0]? = some (a, .inl (X.cB, n, .inl (aI g)))) {z : Int} (hz : i32 z ∧ 0 ≤ z ∧ z < (n : Int)) (hdg : decode cc pc = .ok (.baload, 1))
    (kk : W p l e R s m args below meth c H locs cells slots Q (F0 m (pc + 1) ls (.int (iI (g z.toNat)) :: rest))) : W p l e R s m args below meth c H locs cells slots Q (F0 m pc ls (.int (iI z) :: .ref a :: rest)) :=
  va_bald E.1 E.2.1 hK hw.1 q0 0 ha rfl (iI_in hz.1 hz.2.1 hz.2.2) hdg (by rw [iI_cl hz.1]; exact kk)
theorem lo_bast (E : CallFix p m c cc nL s args Ts own) (hK : lo_K X s) (hw : lo_Wd X ws A H0 H locs) (q0 : Nat) {n a : Nat} {g : Nat → Int} (ha : ws[q0]? = some (a, .inl (X.cB, n, .inl (aI g)))) {z v : Int} (hz : i32 z ∧ 0 ≤ z ∧ z < (n : Int)) (hv : -128 ≤ v ∧ v ≤ 127) {ws' : va_W} (hws : ws.set q0 (a, .inl (X.cB, n, .inl (aI (uI g z.toNat v)))) = ws') (hdg : decode cc pc = .ok (.bastore, 1))
    (kk : ∀ (H1 : Heap) (locs1 : List Loc), lo_Wd X ws' A H0 H1 locs1 → W p l e R s m args below meth c H1 locs1 cells slots Q (F0 m (pc + 1) ls rest)) : W p l e R s m args below meth c H locs cells slots Q (F0 m pc ls (.int (iI v) :: .int (iI z) :: .ref a :: rest)) := by
  have hn : vp_nar .byte (iI v) = iI v := by
    show (iI v).toInt8.toInt32 = iI v
    rw [iI_b, bI_id hv]
  refine va_bast E.1 E.2.1 hK hw.1 hw.2.1 hw.2.2.1 q0 0 ha rfl (iI_in hz.1 hz.2.1 hz.2.2) hdg (fun H1 locs1 h1 h2 h3 => ?_)
  rw [iI_cl hz.1, hn] at h1 h2
  have e : upd (aI g) z.toNat (iI v) = aI (uI g z.toNat v) := uI_upd g z.toNat v
  rw [e] at h1 h2
  exact kk H1 locs1 ⟨hws ▸ h1, hws ▸ h2, h3, hw.2.2.2⟩
theorem lo_i2b (E : CallFix p m c cc nL s args Ts own) {x : Int} (hdg : decode cc pc = .ok (.i2b, 1)) (k : W p l e R s m args below meth c H locs cells slots Q (F0 m (pc + 1) ls (.int (iI (bI x)) :: rest))) : W p l e R s m args below meth c H locs cells slots Q (F0 m pc ls (.int (iI x) :: rest)) := lv_i2b E.1 E.2.1 hdg (iI_b x) k
theorem lo_i2c (E : CallFix p m c cc nL s args Ts own) {x : Int} (hdg : decode cc pc = .ok (.i2c, 1)) (hx : 0 ≤ x ∧ x < 65536) (k : W p l e R s m args below meth c H locs cells slots Q (F0 m (pc + 1) ls (.int (iI x) :: rest))) : W p l e R s m args below meth c H locs cells slots Q (F0 m pc ls (.int (iI x) :: rest)) := lv_i2c E.1 E.2.1 hdg (iI_c hx) k
theorem lo_alen (E : CallFix p m c cc nL s args Ts own) (hK : lo_K X s) (hw : lo_Wd X ws A H0 H locs) (q0 t0 : Nat) {cA : ClassId} {a : Nat} {x : vp_A} (ha : ws[q0]? = some (a, .inl (cA, x))) {ty : FieldType} (ht : (lo_tys X)[t0]? = some (cA, ty)) {z : Int} (hz : Int32.ofNat x.1 = iI z) (hdg : decode cc pc = .ok (.arraylength, 1))
    (kk : W p l e R s m args below meth c H locs cells slots Q (F0 m (pc + 1) ls (.int (iI z) :: rest))) : W p l e R s m args below meth c H locs cells slots Q (F0 m pc ls (.ref a :: rest)) :=
  va_alen E.1 E.2.1 hK hw.1 q0 t0 ha ht hz hdg kk
theorem lo_aret {w0 : va_W} {post : Option Value → va_W → Prop} {v : Nat} {ty : FieldType} (E : CallFix p m c cc nL s args Ts own) (hr : meth.sig.returnType = some ty) (hty : (∃ n, ty = FieldType.object n) ∨ ∃ t, ty = FieldType.array t) (hlocks : meth.locks = false) (hK : lo_K X s) (hA : A = va_A w0 s.heap.size) (hw : lo_Wd X ws A s.heap H locs) (hdg : decode cc pc = .ok (.areturn, 1)) (hf : ws.map Prod.fst = w0.map Prod.fst) (hp : post (some (.ref v)) ws) :
    W p l e R s m args below meth c H locs cells slots (MQ below (lo_Qc X w0 s.heap.size post) args s cells slots A) (F0 m pc ls [.ref v]) := by
  subst hA
  exact W.aret E.1 E.2.1 hr hty (Or.inr ⟨v, rfl⟩) (fun t ht hW => ⟨⟨some (.ref v), rfl, ws, hp, by rw [ht]; exact hw.1, hK.moved hW.alike, hw.2.1, hf⟩, hw.2.2.1.F ht⟩) hw.2.2.1.2.2 hdg hlocks
/-- 'throw new E()' -/
theorem lo_throw {w0 : va_W} {post : Option Value → va_W → Prop} {xp : String → va_W → Prop} {cls : String} {names : List String} {ik ic mc ms : Nat} (E : CallFix p m c cc nL s args Ts own) (hst : l.stackTraces = false) (hV : lo_Ev kS A s s.heap) (hK : lo_K X s) (hA : A = va_A w0 s.heap.size) (hw : lo_Wd X ws A s.heap H locs) (hlocks : meth.locks = false) (hout : ∀ x ∈ c.exceptionTable.toList, False)
    (hcls : Bundle.fit cls = true) (hnames : ∀ n ∈ names, Bundle.fit n = true) (hk : (Cond.classLink own ik cls).before args s = true) (hini : (Cond.initialized cls).before args s = true) (hat : ∀ w ∈ (vx_at0 own ic cls names).filter goodWord, w ∈ Ts) (hbad : ∀ w ∈ (vx_at0 own ic cls names).filter (fun w => !goodWord w), w ∈ lo_bad) (hgood : ∀ w ∈ Cond.classLink own ik cls :: Cond.initialized cls :: vx_at0 own ic cls names, vx_ot w = true)
    (hsize : ls.size = nL) (d0 : decode cc pc = .ok (.new ik, 3)) (d3 : decode cc (pc + 3) = .ok (.dup, 1)) (d4 : decode cc (pc + 4) = .ok (.invokespecial ic, 3)) (d7 : decode cc (pc + 7) = .ok (.athrow, 1))
    (hRframes : names.length + 3 < R.frames) (hRlocals : (rest.map fun v => v.category).sum + (13 * (names.length + 1) + 42) ≤ R.locals) (hRcells : cells + 1 ≤ R.cells) (hRslots : slots + 6 ≤ R.slots) (hf : ws.map Prod.fst = w0.map Prod.fst) (hc : cells + 1 ≤ mc) (hs : slots + 6 ≤ ms) (hp : xp cls ws) :
    W p l e R s m args below meth c H locs cells slots (vx_MQ below (lo_Qc X w0 s.heap.size post) (lo_XC X w0 s.heap.size xp) args s mc ms A) (F0 m pc ls rest) := by
  subst hA
  obtain ⟨hP, hD, hS, hA⟩ := hw
  refine vx_throw0 E.1 E.2.1 hst E.2.2.2.1 hcls hnames hk hini (vx_hat (B := lo_bad) (fun w h => E.2.2.2.2 w (hat w h)) hbad (fun w h => va_Nw.use (lo_bad_tab w h) (hV.2.2.2.2.2.2.2 w h))) hgood hV.2.1 hV.2.2.1 hS (hsize.trans E.2.2.1.symm) d0 d3 d4 d7 (fun x hx => absurd (hout x hx) id) hRframes hRlocals hRcells hRslots hlocks (fun t ha hz hk9 => ?_) hS.2.2 hc hs
  exact ⟨⟨ws, hp, hP.kept (fun k q hq => hk9 q.1 ((hP k q hq).lt)), hK.moved ha, hD, hf⟩, Nat.le_trans hS.1 hz, fun q h1 h2 => by rw [hk9 q (Nat.lt_of_lt_of_le h1 hS.1)]; exact hS.2.1 q h1 h2⟩
end LOT
