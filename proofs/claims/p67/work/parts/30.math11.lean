/-! what reads ten numbers only -/
theorem dueL_x {f g : Nat → Int} (e : ∀ k, k < 10 → f k = g k) : dueL f = dueL g := by
  unfold dueL
  rw [e 1 (by omega), e 2 (by omega), e 5 (by omega), e 4 (by omega), e 3 (by omega)]
theorem payL_x {f g : Nat → Int} (e : ∀ k, k < 10 → f k = g k) : payL f = payL g := by
  unfold payL
  rw [dueL_x e, e 0 (by omega), e 1 (by omega), e 2 (by omega), e 5 (by omega), e 4 (by omega), e 3 (by omega), e 6 (by omega), e 7 (by omega), e 8 (by omega), e 9 (by omega)]
theorem defL_x {f g : Nat → Int} (e : ∀ k, k < 10 → f k = g k) : defL f = defL g := by
  unfold defL
  rw [e 0 (by omega), e 1 (by omega), e 2 (by omega), e 5 (by omega), e 3 (by omega), e 6 (by omega), e 7 (by omega), e 8 (by omega), e 9 (by omega)]
/-! how many are open -/
/-! the row's extra payments -/
