/-! bits of numbers; doubles that are numbers; wide constants -/
theorem iI_and255 (x : Int) : iI x &&& iI 255 = iI (x % 256) := by
  apply Int32.toBitVec_inj.mp
  rw [Int32.toBitVec_and]
  apply BitVec.eq_of_toNat_eq
  rw [BitVec.toNat_and]
  show (BitVec.ofInt 32 x).toNat &&& 255 = (BitVec.ofInt 32 (x % 256)).toNat
  rw [BitVec.toNat_ofInt, BitVec.toNat_ofInt]
  show (x % 4294967296).toNat &&& (2 ^ 8 - 1) = (x % 256 % 4294967296).toNat
  rw [Nat.and_two_pow_sub_one_eq_mod]
  omega
theorem iI_ishr {z : Int} {k : Nat} (hz : i32 z) (hk : k = 24 ∨ k = 16 ∨ k = 8 ∨ k = 0) : iI z >>> (iI k &&& 31) = iI (z / 2 ^ k) := by
  rw [← Int32.toInt_inj]
  have hq : i32 (z / 2 ^ k) := by rcases hk with rfl | rfl | rfl | rfl <;> omega
  rw [iI_toInt hq]
  have e : (iI z >>> (iI k &&& 31)).toBitVec = (iI z).toBitVec.sshiftRight k := by
    rw [Int32.toBitVec_shiftRight]
    rcases hk with rfl | rfl | rfl | rfl <;> rfl
  show (iI z >>> (iI k &&& 31)).toBitVec.toInt = _
  rw [e, BitVec.toInt_sshiftRight, Int.shiftRight_eq_div_pow]
  show (iI z).toInt / _ = _
  rw [iI_toInt hz]
  rcases hk with rfl | rfl | rfl | rfl <;> rfl
section LOV
variable {p : Program} {l : Launch} {e : Env} {R : Room} {s : State} {m : MethodId} {args : Array Value} {below : List Frame} {meth : Method} {c : Code} {H : Heap} {locs : List Loc} {cells slots : Nat} {Q : State → Prop}
variable {cc : ByteArray} {pc nL : Nat} {ls : Array Slot} {rest : List Value} {Ts : List Cond} {own : String}
theorem lo_ldcw (E : CallFix p m c cc nL s args Ts own) {index : Nat} {v : Int32} {z : Int} (hconst : (Jvm.Cond.constant own index v).before args s = true) (hdg : decode cc pc = .ok (.ldc_w index, 3)) (hv : v = iI z) (k : W p l e R s m args below meth c H locs cells slots Q (F0 m (pc + 3) ls (.int (iI z) :: rest))) : W p l e R s m args below meth c H locs cells slots Q (F0 m pc ls rest) := lv_ldcw E.1 E.2.1 E.2.2.2.1 hconst hdg (by rw [hv]; exact k)
theorem lo_ishr (E : CallFix p m c cc nL s args Ts own) {x : Int} {k : Nat} (hdg : decode cc pc = .ok (.ishr, 1)) (hx : i32 x) (hk : k = 24 ∨ k = 16 ∨ k = 8 ∨ k = 0) (kk : W p l e R s m args below meth c H locs cells slots Q (F0 m (pc + 1) ls (.int (iI (x / 2 ^ k)) :: rest))) : W p l e R s m args below meth c H locs cells slots Q (F0 m pc ls (.int (iI (k : Int)) :: .int (iI x) :: rest)) := lv_ishr E.1 E.2.1 hdg (by rw [iI_ishr hx hk]; exact kk)
theorem lo_iand (E : CallFix p m c cc nL s args Ts own) {x : Int} (hdg : decode cc pc = .ok (.iand, 1)) (kk : W p l e R s m args below meth c H locs cells slots Q (F0 m (pc + 1) ls (.int (iI (x % 256)) :: rest))) : W p l e R s m args below meth c H locs cells slots Q (F0 m pc ls (.int (iI 255) :: .int (iI x) :: rest)) := lv_iand E.1 E.2.1 hdg (by rw [iI_and255]; exact kk)
end LOV
