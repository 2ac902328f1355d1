/-! the reference's fields behind a public call: all but thrown, the walk, and the budget's cost stay -/
def sameP (M N : Nat → Int) : Prop := ∀ k, k ≠ 0 → (k < 12 ∨ 17 < k) → k ≠ 28 → N k = M k
theorem sameP.rf {M : Nat → Int} : sameP M M := fun _ _ _ _ => rfl
theorem sameP.tr {M N K : Nat → Int} (h : sameP M N) (h2 : sameP N K) : sameP M K := fun k h0 hk h8 => (h2 k h0 hk h8).trans (h k h0 hk h8)
