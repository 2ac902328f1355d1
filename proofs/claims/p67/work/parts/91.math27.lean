/-- the class's script expects a sign; a number -/
def SIGS (T : Nat → Int) (n a b k g e o na nb nk ng ne no x : Int) : Prop := SCA T n a b k g na nb nk ng e ∧ ((e ≠ 0 ∧ ne = e ∧ no = o) ∨ (e = 0 ∧ (nk = 3 ∧ nb < n ∧ T nb.toNat = x) ∧ ne = 0 ∧ no = o) ∨ (e = 0 ∧ ¬ (nk = 3 ∧ nb < n ∧ T nb.toNat = x) ∧ ne = 1 ∧ no = nb))
def NUMS (T : Nat → Int) (n a b k g e o na nb nk ng ne no lo hi z : Int) : Prop := SCA T n a b k g na nb nk ng e ∧ ((e ≠ 0 ∧ ne = e ∧ no = o ∧ z = 0) ∨ (e = 0 ∧ z = ng ∧ ((nk = 2 ∧ (lo ≤ ng ∧ ng ≤ hi) ∧ ne = 0 ∧ no = o) ∨ (nk = 2 ∧ ¬ (lo ≤ ng ∧ ng ≤ hi) ∧ ne = 2 ∧ no = nb) ∨ (nk ≠ 2 ∧ ne = 1 ∧ no = nb))))
theorem fit_b {z : Int} (h : z = 0 ∨ z = 1) : fits .boolean (.int (iI z)) = true := by rcases h with h | h <;> rw [h] <;> rfl
