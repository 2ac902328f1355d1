theorem SCO_r {T : Nat → Int} {n : Int} {S : SS} {ek eo : Int} {P : PT} (h : SCO T n S ek eo P) : PI P := by
  rcases h with ⟨-, w, h, -⟩ | ⟨-, h, -⟩
  · exact h.1
  · exact h
