theorem bgF_r (bu y : Int) : ∀ (n : Nat) (P : PT) (mo : Int), PI P → -1 ≤ mo → PI (bgF bu y n P mo).1 ∧ -1 ≤ (bgF bu y n P mo).2 ∧ (bgF bu y n P mo).2 ≤ max mo 0 + n
  | 0, P, mo, h, hm => ⟨h, hm, by show mo ≤ _; omega⟩
  | n + 1, P, mo, h, hm => by
    by_cases h0 : 0 < cnt (PL P) (Pn P).toNat
    · by_cases h1 : bu < dueS P
      · rw [bgF_n h0 h1]
        exact ⟨h, by show (-1 : Int) ≤ -1; omega, by show (-1 : Int) ≤ _; omega⟩
      · rw [bgF_s h0 (by omega)]
        have hn := h.1.1
        have hA := plAll_PI h (Pn P).toNat (by omega)
        obtain ⟨i1, i2, i3⟩ := bgF_r bu y n _ (mo + 1) (spF_PI (y := y) 6 _ (bu - dueS P) hA).1 (by omega)
        exact ⟨i1, i2, by omega⟩
    · rw [bgF_e (by omega)]
      exact ⟨h, hm, by show mo ≤ _; omega⟩
