/-! Math.max; sums over the class's loans -/
section LOU
variable {p : Program} {l : Launch} {e : Env} {R : Room} {s : State} {m : MethodId} {args : Array Value} {below : List Frame} {meth : Method} {c : Code} {H : Heap} {locs : List Loc} {cells slots : Nat} {Q : State → Prop}
variable {cc : ByteArray} {pc nL : Nat} {ls : Array Slot} {rest : List Value} {Ts : List Cond} {own : String}
theorem iI_max {x y : Int} (hx : i32 x) (hy : i32 y) : (if iI x < iI y then iI y else iI x) = iI (max x y) := by
  by_cases h : x < y
  · rw [if_pos ((iI_lt hx hy).2 h), show max x y = y by omega]
  · rw [if_neg (mt (iI_lt hx hy).1 h), show max x y = x by omega]
theorem lo_mmax (E : CallFix p m c cc nL s args Ts own) (hls : ls.size = nL) {index : Nat} (hlink : (Cond.methodLink own index Lib.Math.max.name).before args s = true) (hstat : (Cond.static Lib.Math.max.name).before args s = true) (hini : (Cond.initialized "java/lang/Math").before args s = true) (hcode : (Cond.code Lib.Math.max.name Lib.Math.max.code 2 (some .int)).before args s = true)
    (hframes : 1 ≤ R.frames) (hlocals : (rest.map fun v => v.category).sum + 13 ≤ R.locals) (hc : cells ≤ R.cells) (hs : slots ≤ R.slots) {x y : Int} (hx : i32 x) (hy : i32 y) (hdg : decode cc pc = .ok (.invokestatic index, 3))
    (kk : W p l e R s m args below meth c H locs cells slots Q (F0 m (pc + 3) ls (.int (iI (max x y)) :: rest))) : W p l e R s m args below meth c H locs cells slots Q (F0 m pc ls (.int (iI y) :: .int (iI x) :: rest)) :=
  va_mmax E.1 E.2.1 (E.2.2.1.trans hls.symm) E.2.2.2.1 hlink hstat hini hcode hframes hlocals hc hs hdg (by rw [iI_max hx hy]; exact kk)
end LOU
def plBad (P : PT) : Nat → Int
  | 0 => 0
  | k + 1 => plBad P k + (if 0 < PL P k 1 ∧ PL P k 4 < lastL 120 (PL P k) 0 then 1 else 0)
theorem plBad_y {P : PT} {i : Int} (h : 0 ≤ i) (hc : 0 < PL P i.toNat 1 ∧ PL P i.toNat 4 < lastL 120 (PL P i.toNat) 0) : plBad P (i + 1).toNat = plBad P i.toNat + 1 := by
  rw [show (i + 1).toNat = i.toNat + 1 by omega]
  show plBad P i.toNat + (if _ then _ else _) = _
  rw [if_pos hc]
theorem plBad_n {P : PT} {i : Int} (h : 0 ≤ i) (hc : ¬ (0 < PL P i.toNat 1 ∧ PL P i.toNat 4 < lastL 120 (PL P i.toNat) 0)) : plBad P (i + 1).toNat = plBad P i.toNat := by
  rw [show (i + 1).toNat = i.toNat + 1 by omega]
  show plBad P i.toNat + (if _ then _ else _) = _
  rw [if_neg hc, Int.add_zero]
