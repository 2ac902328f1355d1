/-! a text of the tables, loaded -/
section LDS
variable {p : Program} {l : Launch} {e : Env} {R : Room} {s : State} {m : MethodId} {args : Array Value} {below : List Frame} {meth : Method} {c : Code} {H : Heap} {locs : List Loc} {cells slots : Nat} {Q : State → Prop}
variable {cc : ByteArray} {pc nL : Nat} {ls : Array Slot} {rest : List Value} {Ts : List Cond} {own : String} {kS : Nat → Nat} {A : Nat → Prop}
theorem lo_ldcS (E : CallFix p m c cc nL s args Ts own) (hV : lo_Ev kS A s s.heap) (i : Nat) (hi : i < 21) (ho : own = (lo_own i).1) (hdg : decode cc pc = .ok (.ldc (lo_own i).2.1, 2))
    (k : W p l e R s m args below meth c H locs cells slots Q (F0 m (pc + 2) ls (.ref (kS i) :: rest))) : W p l e R s m args below meth c H locs cells slots Q (F0 m pc ls rest) := by
  subst ho
  exact va_ldcS E.1 E.2.1 E.2.2.2.1 (hV.2.2.2.2.2.2.1 i hi) hdg k
theorem lo_ldcwS (E : CallFix p m c cc nL s args Ts own) (hV : lo_Ev kS A s s.heap) (i : Nat) (hi : i < 21) (ho : own = (lo_own i).1) (hdg : decode cc pc = .ok (.ldc_w (lo_own i).2.1, 3))
    (k : W p l e R s m args below meth c H locs cells slots Q (F0 m (pc + 3) ls (.ref (kS i) :: rest))) : W p l e R s m args below meth c H locs cells slots Q (F0 m pc ls rest) := by
  subst ho
  have hR := hV.2.2.2.2.2.2.1 i hi
  have hexec := E.1
  have hdg2 : decode c.code (F0 m pc ls rest).pc = .ok (.ldc_w (lo_own i).2.1, 3) := by rw [E.2.1]; exact hdg
  intro T hT X
  obtain ⟨t, a1, b1⟩ := k T hT X
  obtain ⟨k0, cf, i0, a', hk, hcf, hcp, -, hr, hev'⟩ := Cond.stringRef_spec E.2.2.2.1 hR.1
  cases hR.2.symm.trans hev'
  obtain ⟨k', hk', he⟩ := X.warmed.alike.2.2 _ _ hk
  have hr' : k'.resolved[(lo_own i).2.1]? = some (some (.string (kS i))) := by
    rcases X.warmed.entry hk hk' (lo_own i).2.1 with h | ⟨h, -⟩
    · rw [h]; exact hr
    · rw [hr] at h; cases h
  refine ⟨t, ?_, b1⟩
  jvm_step X.here [hexec, hdg2, ldc_w.wp_string (e := e) (s := T) (f := F0 m pc ls rest) X.here.top hk' (by rw [he]; exact hcf) hcp hr']
  exact a1
end LDS
