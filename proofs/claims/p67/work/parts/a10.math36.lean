/-! the reference's reading, by the functions of the text -/
/-- what a command of the script leaves alone -/
def KPT (M N : Nat → Int) : Prop := ∀ k, k < 12 ∨ (17 < k ∧ k < 20) ∨ 25 < k → N k = M k
theorem KPT.rf (M : Nat → Int) : KPT M M := fun _ _ => rfl
theorem KPT.tr {M N K : Nat → Int} (h : KPT M N) (h2 : KPT N K) : KPT M K := fun k hk => (h2 k hk).trans (h k hk)
