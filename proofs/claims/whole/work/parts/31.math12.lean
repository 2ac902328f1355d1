theorem runL_st : ∀ {b a : Nat} {L : Nat → Int}, runL a L 1 ≤ 0 → a ≤ b → runL b L = runL a L
  | 0, a, L, _, h2 => by rw [show a = 0 by omega]
  | b + 1, a, L, h, h2 => by
    by_cases e : a = b + 1
    · rw [e]
    · have ih := runL_st (b := b) h (by omega)
      rw [runL_r, ih]
      exact if_neg (by omega)
