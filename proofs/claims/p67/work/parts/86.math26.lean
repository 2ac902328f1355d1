/-- word i of the class's script stands here -/
def WD (T : Nat → Int) (k s a : Int) (i : Nat) : Prop := k = 1 ∧ isW T s a (lo_tx i)
theorem wdY {z : Int} {P : Prop} (q : (z = 1 ∧ P) ∨ (z = 0 ∧ ¬ P)) (c : z ≠ 0) : P := (q.resolve_right fun h => c h.1).2
theorem wdN {z : Int} {P : Prop} (q : (z = 1 ∧ P) ∨ (z = 0 ∧ ¬ P)) (c : z = 0) : ¬ P := (q.resolve_left fun h => absurd h.1 (by omega)).2
theorem all8 {P : Nat → Prop} (h1 : ¬ P 1) (h2 : ¬ P 2) (h3 : ¬ P 3) (h4 : ¬ P 4) (h5 : ¬ P 5) (h6 : ¬ P 6) (h7 : ¬ P 7) (h8 : ¬ P 8) : ∀ i, 1 ≤ i → i ≤ 8 → ¬ P i := by
  intro i a b
  have c : i = 1 ∨ i = 2 ∨ i = 3 ∨ i = 4 ∨ i = 5 ∨ i = 6 ∨ i = 7 ∨ i = 8 := by omega
  rcases c with rfl | rfl | rfl | rfl | rfl | rfl | rfl | rfl <;> assumption
