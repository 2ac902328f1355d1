/-- a loan made in the row -/
def wZ (w : Nat → Int) (n : Int) : Nat → (Nat → Int)
  | 0 => w
  | k + 1 => wPut (wZ w n k) n k 0
theorem wZ_R {w : Nat → Int} {n : Int} (hn : 0 ≤ n) : ∀ k : Nat, k ≤ 10 → ∃ f : Nat → Int, WR w (wZ w n k) n f ∧ ∀ q, q < k → f q = 0
  | 0, _ => ⟨WL w n, WR.rf w n, fun q hq => absurd hq (Nat.not_lt_zero q)⟩
  | k + 1, hk => by
    obtain ⟨f, h1, h2⟩ := wZ_R (w := w) hn k (by omega)
    refine ⟨uI f ((k : Nat) : Int).toNat 0, h1.put hn (by omega) (by omega), fun q hq => ?_⟩
    by_cases e : q = ((k : Nat) : Int).toNat
    · rw [e, uI_s]
    · rw [uI_n e]; exact h2 q (by omega)
def wNw (w : Nat → Int) (a r m : Int) : Nat → Int :=
  let n := w 0
  let u := wPut (wPut (wPut (wPut (wZ w n 10) n 0 a) n 1 a) n 2 r) n 3 m
  uI u 0 (u 0 + 1)
noncomputable def wNew (w : Nat → Int) (a r m : Int) : Nat → Int := wCalc (wNw w a r m) (w 0)
theorem wNw_R {w : Nat → Int} {a r m : Int} (hn : 0 ≤ w 0) : (∀ k : Nat, k < 10 → wOf (wNw w a r m) (w 0) k = lf a a r m 0 0 0 0 0 0 k) ∧ (∀ j : Int, 0 ≤ j → j ≠ w 0 → ∀ k : Nat, k < 10 → wOf (wNw w a r m) j k = wOf w j k) ∧ (∀ j : Nat, 0 < j → j < 62 → wNw w a r m j = w j) ∧ wNw w a r m 0 = w 0 + 1 := by
  obtain ⟨f, h1, h2⟩ := wZ_R (w := w) hn 10 (Nat.le_refl _)
  have h3 := (((h1.put hn (k := 0) (x := a) (by omega) (by omega)).put hn (k := 1) (x := a) (by omega) (by omega)).put hn (k := 2) (x := r) (by omega) (by omega)).put hn (k := 3) (x := m) (by omega) (by omega)
  have hu : ∀ (j k : Int), 0 ≤ j → 0 ≤ k → wOf (wNw w a r m) j k = wOf (wPut (wPut (wPut (wPut (wZ w (w 0) 10) (w 0) 0 a) (w 0) 1 a) (w 0) 2 r) (w 0) 3 m) j k := fun j k hj hk => uI_n (by omega)
  refine ⟨fun k hk => ?_, fun j hj hne k hk => ?_, fun j h0 hj => ?_, ?_⟩
  · rw [hu _ _ hn (by omega), h3.1 k hk]
    revert k
    exact lo_ten rfl rfl rfl rfl (h2 4 (by omega)) (h2 5 (by omega)) (h2 6 (by omega)) (h2 7 (by omega)) (h2 8 (by omega)) (h2 9 (by omega))
  · rw [hu _ _ hj (by omega)]; exact h3.2.1 j hj hne k hk
  · exact (uI_n (by omega)).trans (h3.2.2 j hj)
  · exact uI_s.trans (congrArg (· + 1) (h3.2.2 0 (by omega)))
theorem nar_b {z : Int} (h : z = 0 ∨ z = 1) : narrow .boolean (.int (iI z)) = .int (iI z) := by rcases h with h | h <;> rw [h] <;> rfl
