/-! whole numbers as ints and longs; worlds in one hypothesis; contracts of one form -/
def iI (z : Int) : Int32 := Int32.ofInt z
def iL (z : Int) : Int64 := Int64.ofInt z
abbrev i32 (z : Int) : Prop := -2147483648 ≤ z ∧ z ≤ 2147483647
abbrev i64 (z : Int) : Prop := -9223372036854775808 ≤ z ∧ z ≤ 9223372036854775807
theorem iI_add (a b : Int) : iI a + iI b = iI (a + b) := (Int32.ofInt_add a b).symm
theorem iI_sub (a b : Int) : iI a - iI b = iI (a - b) := (Int32.ofInt_sub a b).symm
theorem iI_mul (a b : Int) : iI a * iI b = iI (a * b) := (Int32.ofInt_mul a b).symm
theorem iL_add (a b : Int) : iL a + iL b = iL (a + b) := (Int64.ofInt_add a b).symm
theorem iL_sub (a b : Int) : iL a - iL b = iL (a - b) := (Int64.ofInt_sub a b).symm
theorem iL_mul (a b : Int) : iL a * iL b = iL (a * b) := (Int64.ofInt_mul a b).symm
theorem iI_toInt {z : Int} (h : i32 z) : (iI z).toInt = z := Int32.toInt_ofInt_of_le (by omega) (by omega)
theorem iL_toInt {z : Int} (h : i64 z) : (iL z).toInt = z := Int64.toInt_ofInt_of_le (by omega) (by omega)
theorem iI_of (x : Int32) : x = iI x.toInt := (Int32.ofInt_toInt x).symm
theorem i32_of (x : Int32) : i32 x.toInt := ⟨by have := x.le_toInt; omega, by have := x.toInt_lt; omega⟩
theorem iI_le {a b : Int} (ha : i32 a) (hb : i32 b) : iI a ≤ iI b ↔ a ≤ b := by rw [Int32.le_iff_toInt_le, iI_toInt ha, iI_toInt hb]
theorem iI_lt {a b : Int} (ha : i32 a) (hb : i32 b) : iI a < iI b ↔ a < b := by rw [Int32.lt_iff_toInt_lt, iI_toInt ha, iI_toInt hb]
theorem iI_eq {a b : Int} (ha : i32 a) (hb : i32 b) : iI a = iI b ↔ a = b := by rw [← Int32.toInt_inj, iI_toInt ha, iI_toInt hb]
theorem iL_lt {a b : Int} (ha : i64 a) (hb : i64 b) : iL a < iL b ↔ a < b := by rw [Int64.lt_iff_toInt_lt, iL_toInt ha, iL_toInt hb]
theorem iL_eq {a b : Int} (ha : i64 a) (hb : i64 b) : iL a = iL b ↔ a = b := by rw [← Int64.toInt_inj, iL_toInt ha, iL_toInt hb]
theorem iI_z : (0 : Int32) = iI 0 := rfl
theorem iL_z : (0 : Int64) = iL 0 := rfl
theorem iI_ne0 {a : Int} (ha : i32 a) (h : a ≠ 0) : ¬ iI a = 0 := by rw [iI_z, iI_eq ha (by omega)]; exact h
theorem iL_ne0 {a : Int} (ha : i64 a) (h : a ≠ 0) : ¬ iL a = 0 := by rw [iL_z, iL_eq ha (by omega)]; exact h
theorem lo_ediv_r {a b : Int} (h0 : 0 ≤ a) (hb : 0 < b) : 0 ≤ a / b ∧ a / b ≤ a := ⟨Int.ediv_nonneg h0 (by omega), Int.ediv_le_self b h0⟩
theorem iI_div {a b : Int} (ha : i32 a) (h0 : 0 ≤ a) (hb : i32 b) (h1 : 0 < b) : iI a / iI b = iI (a / b) := by
  have hr := lo_ediv_r h0 h1
  rw [← Int32.toInt_inj, Int32.toInt_div_of_ne_right _ _ (by
    intro h
    rw [← Int32.toInt_inj, iI_toInt hb] at h
    have e : (-1 : Int32).toInt = -1 := rfl
    omega), iI_toInt ha, iI_toInt hb, iI_toInt (by omega), Int.tdiv_eq_ediv_of_nonneg h0]
theorem iL_div {a b : Int} (ha : i64 a) (h0 : 0 ≤ a) (hb : i64 b) (h1 : 0 < b) : iL a / iL b = iL (a / b) := by
  have hr := lo_ediv_r h0 h1
  rw [← Int64.toInt_inj, Int64.toInt_div_of_ne_right _ _ (by
    intro h
    rw [← Int64.toInt_inj, iL_toInt hb] at h
    have e : (-1 : Int64).toInt = -1 := rfl
    omega), iL_toInt ha, iL_toInt hb, iL_toInt (by omega), Int.tdiv_eq_ediv_of_nonneg h0]
theorem lo_emod (a b : Int) : a - a / b * b = a % b := by have := Int.emod_def a b; rw [Int.mul_comm] at this; omega
theorem iL_rem {a b : Int} (ha : i64 a) (h0 : 0 ≤ a) (hb : i64 b) (h1 : 0 < b) : iL a - iL a / iL b * iL b = iL (a % b) := by
  rw [iL_div ha h0 hb h1, iL_mul, iL_sub, lo_emod]
theorem iI_in {z : Int} {n : Nat} (hz : i32 z) (h0 : 0 ≤ z) (h : z < (n : Int)) : vp_in (iI z) n := vp_in_iff.mpr (by rw [iI_toInt hz]; exact ⟨h0, h⟩)
theorem iI_cl {z : Int} (hz : i32 z) : (iI z).toNatClampNeg = z.toNat := Int32.toNatClampNeg_ofInt_of_le (by omega) (by omega)
theorem iI_l {z : Int} (hz : i32 z) : (iI z).toInt64 = iL z := by rw [← Int64.toInt_inj, Int32.toInt_toInt64, iI_toInt hz, iL_toInt (by omega)]
theorem iL_i (z : Int) : (iL z).toInt32 = iI z := Int64.toInt32_ofInt
/-- a function at one place anew -/
def uI (g : Nat → Int) (k : Nat) (v : Int) : Nat → Int := fun j => if j = k then v else g j
theorem uI_s {g : Nat → Int} {k : Nat} {v : Int} : uI g k v k = v := if_pos rfl
theorem uI_n {g : Nat → Int} {k j : Nat} {v : Int} (h : j ≠ k) : uI g k v j = g j := if_neg h
theorem uI_upd (g : Nat → Int) (k : Nat) (v : Int) : upd (fun j => iI (g j)) k (iI v) = fun j => iI (uI g k v j) := by
  funext j
  by_cases h : j = k
  · simp [upd, uI, h]
  · simp [upd, uI, h]
abbrev aI (g : Nat → Int) : Nat → Int32 := fun j => iI (g j)
/-- the tables' names of this launch: classes and slots, and the classes of the arrays -/
abbrev KX : Type := va_G × (ClassId × ClassId × ClassId × ClassId × ClassId)
abbrev KX.cB (X : KX) : ClassId := X.2.1
abbrev KX.cI (X : KX) : ClassId := X.2.2.1
abbrev KX.cN (X : KX) : ClassId := X.2.2.2.1
abbrev KX.cP (X : KX) : ClassId := X.2.2.2.2.1
abbrev KX.cA (X : KX) : ClassId := X.2.2.2.2.2
def lo_tys (X : KX) : List (ClassId × FieldType) := [(X.cB, .byte), (X.cI, .int), (X.cN, .object RX2), (X.cP, .object RX3)]
def lo_K (X : KX) (U : State) : Prop := va_K X.1 vwCl (lo_tys X) U
def lo_Wd (X : KX) (ws : va_W) (A : Nat → Prop) (H0 H : Heap) (locs : List Loc) : Prop := va_P X.1 vwCl ws H ∧ va_D A ws ∧ va_S A H0 H locs ∧ ∀ q, H0.size ≤ q → A q
/-- a world with the cells at the places ps put anew -/
def lo_sets : va_W → List Nat → va_W → va_W
  | ws, p :: ps, w :: w1 => lo_sets (ws.set p w) ps w1
  | ws, _, _ => ws
/-- the contract of a method that returns: from the cells w0, whatever post says of the answer and of the cells behind it -/
def lo_Pc (X : KX) (as : List Value) (w0 : va_W) (sz : Nat) : Array Value → State → Prop := va_Pc as (fun U => U.heap.size = sz ∧ va_P X.1 vwCl w0 U.heap ∧ lo_K X U ∧ va_D (fun _ => True) w0)
def lo_B (X : KX) (w0 : va_W) (sz : Nat) (post : va_W → Prop) (t : State) : Prop := ∃ w : va_W, post w ∧ va_P X.1 vwCl w t.heap ∧ lo_K X t ∧ va_D (va_A w0 sz) w ∧ w.map Prod.fst = w0.map Prod.fst
def lo_Qc (X : KX) (w0 : va_W) (sz : Nat) (post : Option Value → va_W → Prop) : Array Value → State → Outcome → State → Prop := fun _ st oc t => (∃ v : Option Value, oc = .returned v ∧ lo_B X w0 sz (post v) t) ∧ va_F (va_A w0 sz) st t
def CM (l : Launch) (X : KX) (y : MethodName) (ws : List Cond) (rm : Room) (as : List Value) (w0 : va_W) (post : Option Value → va_W → Prop) (mc ms : Nat) : Prop :=
  ∀ sz : Nat, Met l y ws rm (lo_Pc X as w0 sz) (lo_Qc X w0 sz post) mc ms (va_A w0 sz)
theorem lo_blind (X : KX) (as : List Value) (w0 : va_W) (sz : Nat) : FrameBlind (lo_Pc X as w0 sz) := fun a U g mk q => by
  obtain ⟨q0, q1, qP, qK, qD⟩ := q
  exact ⟨q0, q1, qP, va_K.moved (u := U) (U := U.calling g mk a) (Vm.Alike.refl U.vm) qK, qD⟩
theorem lo_K.moved {X : KX} {u U : State} (hvm : u.vm.Alike U.vm) (h : lo_K X u) : lo_K X U := va_K.moved hvm h
theorem lo_sets_out : ∀ (ps : List Nat) (ws w1 : va_W) (i : Nat), i ∉ ps → (lo_sets ws ps w1)[i]? = ws[i]?
  | [], ws, w1, i, _ => by cases w1 <;> rfl
  | p :: ps, ws, [], i, _ => rfl
  | p :: ps, ws, w :: w1, i, h => by
    show (lo_sets (ws.set p w) ps w1)[i]? = _
    rw [lo_sets_out ps _ w1 i (fun q => h (List.mem_cons_of_mem _ q)), List.getElem?_set_ne (show p ≠ i from fun e => h (by rw [e]; exact List.mem_cons_self))]
theorem lo_sets_in : ∀ (ps : List Nat) (ws w1 : va_W) (i j : Nat) (q : Nat × va_E), va_nd ps = true → ps[j]? = some i → i < ws.length → w1[j]? = some q → (lo_sets ws ps w1)[i]? = some q
  | [], ws, w1, i, j, q, _, h, _, _ => by simp at h
  | p :: ps, ws, [], i, j, q, _, _, _, h => by simp at h
  | p :: ps, ws, w :: w1, i, 0, q, hn, h1, hl, h2 => by
    show (lo_sets (ws.set p w) ps w1)[i]? = _
    have e1 : p = i := by simpa using h1
    have e2 : w = q := by simpa using h2
    subst e1
    subst e2
    have hn : decide (p ∉ ps) = true ∧ va_nd ps = true := by simpa [va_nd] using hn
    rw [lo_sets_out ps _ w1 p (of_decide_eq_true hn.1), List.getElem?_set_self hl]
  | p :: ps, ws, w :: w1, i, j + 1, q, hn, h1, hl, h2 => by
    show (lo_sets (ws.set p w) ps w1)[i]? = _
    have hn : decide (p ∉ ps) = true ∧ va_nd ps = true := by simpa [va_nd] using hn
    exact lo_sets_in ps _ w1 i j q hn.2 (by simpa using h1) (by rw [List.length_set]; exact hl) (by simpa using h2)
theorem lo_fst {ws w2 : va_W} (h : w2.map Prod.fst = ws.map Prod.fst) {i : Nat} {q : Nat × va_E} (hq : w2[i]? = some q) : ∃ r : Nat × va_E, ws[i]? = some r ∧ r.1 = q.1 := by
  have h1 : (w2.map Prod.fst)[i]? = some q.1 := by rw [List.getElem?_map, hq]; rfl
  rw [h, List.getElem?_map] at h1
  cases hr : ws[i]? with
  | none => rw [hr] at h1; cases h1
  | some r => rw [hr] at h1; exact ⟨r, rfl, Option.some.inj h1⟩
theorem lo_D_fst {A : Nat → Prop} {ws w2 : va_W} (h : w2.map Prod.fst = ws.map Prod.fst) (hD : va_D A ws) : va_D A w2 := by
  refine ⟨fun i j p q hi hj e => ?_, fun k q hk => ?_⟩
  · obtain ⟨r1, h1, e1⟩ := lo_fst h hi
    obtain ⟨r2, h2, e2⟩ := lo_fst h hj
    exact hD.1 i j r1 r2 h1 h2 (by rw [e1, e2, e])
  · obtain ⟨r1, h1, e1⟩ := lo_fst h hk
    rw [← e1]
    exact hD.2 k r1 h1
theorem lo_at {ps : List Nat} {ws w0 : va_W} (hps : ps.map (fun i => ws[i]?) = w0.map some) {j : Nat} {q : Nat × va_E} (hq : w0[j]? = some q) : ∃ i, ps[j]? = some i ∧ ws[i]? = some q := by
  have h1 : (ps.map (fun i => ws[i]?))[j]? = some (some q) := by rw [hps, List.getElem?_map, hq]; rfl
  rw [List.getElem?_map] at h1
  cases hi : ps[j]? with
  | none => rw [hi] at h1; cases h1
  | some i => rw [hi] at h1; exact ⟨i, rfl, Option.some.inj h1⟩
theorem lo_at2 {ps : List Nat} {ws w0 : va_W} (hps : ps.map (fun i => ws[i]?) = w0.map some) {j i : Nat} (hi : ps[j]? = some i) : ∃ q, w0[j]? = some q ∧ ws[i]? = some q := by
  have h1 : (w0.map some)[j]? = some (ws[i]?) := by rw [← hps, List.getElem?_map, hi]; rfl
  rw [List.getElem?_map] at h1
  cases hq : w0[j]? with
  | none => rw [hq] at h1; cases h1
  | some q => rw [hq] at h1; exact ⟨q, rfl, (Option.some.inj h1).symm⟩
theorem lo_sets_fst {ps : List Nat} {ws w0 w1 : va_W} (hps : ps.map (fun i => ws[i]?) = w0.map some) (hn : va_nd ps = true) (hf : w1.map Prod.fst = w0.map Prod.fst) : (lo_sets ws ps w1).map Prod.fst = ws.map Prod.fst := by
  apply List.ext_getElem?
  intro i
  rw [List.getElem?_map, List.getElem?_map]
  by_cases h : i ∈ ps
  · obtain ⟨j, hj⟩ := List.getElem?_of_mem h
    obtain ⟨q, h1, h2⟩ := lo_at2 hps hj
    have hl : i < ws.length := (List.getElem?_eq_some_iff.mp h2).1
    obtain ⟨r, h3, h4⟩ := lo_fst hf.symm h1
    rw [lo_sets_in ps ws w1 i j r hn hj hl h3, h2]
    exact congrArg some h4
  · rw [lo_sets_out ps ws w1 i h]
theorem lo_sets_P {D : va_G} {cl : List vw_C} {A : Nat → Prop} {ps : List Nat} {ws w0 w1 : va_W} {H H1 : Heap} (hP : va_P D cl ws H) (hD : va_D A ws) (hps : ps.map (fun i => ws[i]?) = w0.map some) (hn : va_nd ps = true) (hf : w1.map Prod.fst = w0.map Prod.fst) (hP1 : va_P D cl w1 H1) (hk : ∀ q : Nat, q < H.size → ¬ va_A w0 H.size q → H1[q]? = H[q]?) : va_P D cl (lo_sets ws ps w1) H1 ∧ va_D A (lo_sets ws ps w1) := by
  refine ⟨fun i q hq => ?_, lo_D_fst (lo_sets_fst hps hn hf) hD⟩
  by_cases h : i ∈ ps
  · obtain ⟨j, hj⟩ := List.getElem?_of_mem h
    obtain ⟨r, h1, h2⟩ := lo_at2 hps hj
    have hl : i < ws.length := (List.getElem?_eq_some_iff.mp h2).1
    obtain ⟨r1, h3, h4⟩ := lo_fst hf.symm h1
    rw [lo_sets_in ps ws w1 i j r1 hn hj hl h3] at hq
    cases hq
    exact hP1 j _ h3
  · rw [lo_sets_out ps ws w1 i h] at hq
    refine (hP i q hq).kept (hk q.1 (hP i q hq).lt (fun z => ?_))
    rcases z with ⟨k, e, hz⟩ | hz
    · obtain ⟨i2, h1, h2⟩ := lo_at hps hz
      have e3 := hD.1 i i2 q (q.1, e) hq h2 rfl
      subst e3
      exact h (List.mem_of_getElem? h1)
    · have := (hP i q hq).lt
      omega
section LOK
variable {p : Program} {l : Launch} {e : Env} {R : Room} {s : State} {m : MethodId} {args : Array Value} {below : List Frame} {meth : Method} {c : Code} {H : Heap} {locs : List Loc} {cells slots : Nat} {Q : State → Prop}
variable {cc : ByteArray} {pc nL : Nat} {ls : Array Slot} {rest st0 : List Value} {Ts : List Cond} {own : String} {X : KX} {ws : va_W} {A : Nat → Prop} {H0 : Heap}
theorem lo_call {a : Array Value} {w0 : va_W} {post : Option Value → va_W → Prop} {mc ms : Nat} (ps : List Nat) (hr : va_Run p l e R s m args below meth c H locs cells slots mc ms (F0 m pc ls st0) rest (lo_Qc X w0 H.size post a) (va_A w0 H.size)) (hw : lo_Wd X ws A H0 H locs) (hps : ps.map (fun i => ws[i]?) = w0.map some) (hn : va_nd ps = true)
    (kk : ∀ (v : Option Value) (w1 : va_W) (H1 : Heap) (locs1 : List Loc), post v w1 → lo_Wd X (lo_sets ws ps w1) A H0 H1 locs1 → W p l e R s m args below meth c H1 locs1 (cells + mc) (slots + ms) Q (F0 m (pc + 3) ls (v.toList ++ rest))) : W p l e R s m args below meth c H locs cells slots Q (F0 m pc ls st0) := by
  obtain ⟨hP, hD, hS, hA⟩ := hw
  have hF := va_free hD hS hA ps hps
  intro T hT Xs
  obtain ⟨v, st₀, t, T', L, h0, X', hL, e1, e2, ⟨⟨v2, hv, w1, hp, hP1, hK1, hD1, hf⟩, hz, hk⟩, st⟩ := hr T hT Xs
  cases hv
  rw [h0] at hz hk
  have hz' : H.size ≤ T'.heap.size := by rw [e1]; exact hz
  have hk' : ∀ q : Nat, q < H.size → ¬ va_A w0 H.size q → T'.heap[q]? = H[q]? := fun q h1 h2 => by rw [e1]; exact hk q h1 h2
  have hP1' : va_P X.1 vwCl w1 T'.heap := by rw [e1]; exact hP1
  obtain ⟨hP2, hD2⟩ := lo_sets_P hP hD hps hn hf hP1' hk'
  obtain ⟨t2, a1, b1⟩ := kk v w1 T'.heap (locs ++ L) hp ⟨hP2, hD2, ⟨Nat.le_trans hS.1 hz', fun q h1 h2 => by
      rw [hk' q (Nat.lt_of_lt_of_le h1 hS.1) (fun z => h2 (hF q z))]; exact hS.2.1 q h1 h2, fun q hq => by
      rcases List.mem_append.mp hq with h | h
      · exact hS.2.2 q h
      · exact hF _ (hL q h)⟩, hA⟩ T' rfl X'
  exact ⟨t2, st t2 a1, b1⟩
theorem lo_pre {w0 : va_W} {as : List Value} (ps : List Nat) (hK : lo_K X s) (hw : lo_Wd X ws A H0 H locs) (hps : ps.map (fun i => ws[i]?) = w0.map some) (hn : va_nd ps = true) : ∀ U : State, U.heap = H → s.WarmedH U.vm → lo_Pc X as w0 H.size as.toArray U := by
  intro U hU hW
  refine ⟨rfl, by rw [hU], ?_, hK.moved hW.alike, ?_⟩
  · rw [hU]
    intro k q hk
    obtain ⟨i, -, h2⟩ := lo_at hps hk
    exact hw.1 i q h2
  · exact (hw.2.1.sub ps hn hps).weaken (fun _ _ _ _ => trivial)
/-- a virtual call of a method with a contract -/
theorem lo_callV {y : MethodName} {bytes : ByteArray} {maxL index n ci q0 mc ms : Nat} {ret : Option FieldType} {wsy : List Cond} {rm : Room} {b : Nat} {fs As rest : List Value} {w0 : va_W} {post : Option Value → va_W → Prop} {C : String} {T : u_T} {N : Nat} (E : CallFix p m c cc nL s args Ts own) (hK : lo_K X s) (hw : lo_Wd X ws A H0 H locs)
    (hM : CM l X y wsy rm (.ref b :: As) w0 post mc ms) (cw : CallW R s args own C index y bytes maxL ret wsy rm mc ms n) (hrec : ws[q0]? = some (b, .inr (ci, fs))) (hc : vwCl[ci]? = some (C, T, N)) (ps : List Nat) (hps : ps.map (fun i => ws[i]?) = w0.map some) (hnd : va_nd ps = true) (hls : ls.size = nL) (hn : As.length = n)
    (hst : st0 = As.reverse ++ .ref b :: rest) (hroom : (rest.map fun v => v.category).sum ≤ 8) (hdg : decode cc pc = .ok (.invokevirtual index, 3)) (hf : cells + mc ≤ R.cells ∧ slots + ms ≤ R.slots)
    (kk : ∀ (v : Option Value) (w1 : va_W) (H1 : Heap) (locs1 : List Loc), post v w1 → lo_Wd X (lo_sets ws ps w1) A H0 H1 locs1 → W p l e R s m args below meth c H1 locs1 (cells + mc) (slots + ms) Q (F0 m (pc + 3) ls (v.toList ++ rest))) : W p l e R s m args below meth c H locs cells slots Q (F0 m pc ls st0) :=
  lo_call (rest := rest) ps (va_runV E (hM H.size) cw ⟨lo_blind X _ w0 H.size, va_recv hK hw.1 hc hrec, fun U hU hW => lo_pre ps hK hw hps hnd U hU hW⟩ rfl hn hls hst (lv_room hroom) hdg hf) hw hps hnd kk
theorem lo_callS {y : MethodName} {bytes : ByteArray} {maxL index n mc ms : Nat} {ret : Option FieldType} {wsy : List Cond} {rm : Room} {As rest : List Value} {w0 : va_W} {post : Option Value → va_W → Prop} (E : CallFix p m c cc nL s args Ts own) (hK : lo_K X s) (hw : lo_Wd X ws A H0 H locs)
    (hM : CM l X y wsy rm As w0 post mc ms) (cw : CallB R s args own index y bytes maxL ret wsy rm mc ms n ∧ (Cond.static y).before args s = true) (ps : List Nat) (hps : ps.map (fun i => ws[i]?) = w0.map some) (hnd : va_nd ps = true) (hls : ls.size = nL) (hn : As.length = n)
    (hst : st0 = As.reverse ++ rest) (hroom : (rest.map fun v => v.category).sum ≤ 8) (hdg : decode cc pc = .ok (.invokestatic index, 3)) (hf : cells + mc ≤ R.cells ∧ slots + ms ≤ R.slots)
    (kk : ∀ (v : Option Value) (w1 : va_W) (H1 : Heap) (locs1 : List Loc), post v w1 → lo_Wd X (lo_sets ws ps w1) A H0 H1 locs1 → W p l e R s m args below meth c H1 locs1 (cells + mc) (slots + ms) Q (F0 m (pc + 3) ls (v.toList ++ rest))) : W p l e R s m args below meth c H locs cells slots Q (F0 m pc ls st0) :=
  lo_call (rest := rest) ps (va_runS E (hM H.size) cw ⟨lo_blind X _ w0 H.size, fun U hU hW => lo_pre ps hK hw hps hnd U hU hW⟩ rfl hn hls hst (lv_room hroom) hdg hf) hw hps hnd kk
end LOK
