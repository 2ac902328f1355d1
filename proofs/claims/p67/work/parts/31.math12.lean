theorem runL_6 : ∀ (n : Nat) (L : Nat → Int), LI L → 0 ≤ runL n L 6 - L 6 ∧ runL n L 6 - L 6 ≤ 250001 * n
  | 0, L, _ => by show 0 ≤ L 6 - L 6 ∧ L 6 - L 6 ≤ 250001 * 0; omega
  | n + 1, L, h => by
    by_cases ho : 0 < L 1
    · rw [runL_s ho]
      have ih := runL_6 n (payL L) (payL_LI h ho)
      have hf := fI_r h.1.1 h.2.1.1 h.2.1.2 h.2.2.1.1 h.2.2.1.2
      have h1 := h.1.2
      have e : payL L 6 = L 6 + fI (L 1) (L 2) (L 5) := rfl
      omega
    · rw [runL_e (by omega)]; omega
/-! the budget in the row -/
