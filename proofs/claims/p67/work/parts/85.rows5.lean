/-! a text of the tables, loaded -/
section LDS
variable {p : Program} {l : Launch} {e : Env} {R : Room} {s : State} {m : MethodId} {args : Array Value} {below : List Frame} {meth : Method} {c : Code} {H : Heap} {locs : List Loc} {cells slots : Nat} {Q : State → Prop}
variable {cc : ByteArray} {pc nL : Nat} {ls : Array Slot} {rest : List Value} {Ts : List Cond} {own : String} {kS : Nat → Nat} {A : Nat → Prop}
theorem lo_ldcS (E : CallFix p m c cc nL s args Ts own) (hV : lo_Ev kS A s s.heap) (i : Nat) (hi : i < 21) (ho : own = (lo_own i).1) (hdg : decode cc pc = .ok (.ldc (lo_own i).2.1, 2))
    (k : W p l e R s m args below meth c H locs cells slots Q (F0 m (pc + 2) ls (.ref (kS i) :: rest))) : W p l e R s m args below meth c H locs cells slots Q (F0 m pc ls rest) := by
  subst ho
  exact va_ldcS E.1 E.2.1 E.2.2.2.1 (hV.2.2.2.2.2.2.1 i hi) hdg k
end LDS
