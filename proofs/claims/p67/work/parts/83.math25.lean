theorem SCK_k {T : Nat → Int} {n b g0 a k g : Int} (h : SCK T n b g0 a k g) : 0 ≤ k ∧ k ≤ 4 := by
  rcases h with ⟨-, -, h, -⟩ | ⟨-, -, -, h, -⟩ | ⟨-, -, -, -, h⟩ | ⟨-, -, -, -, -, h⟩ <;> omega
/-- the class's script has read on, or stands at its fault -/
def SCA (T : Nat → Int) (n a b k g na nb nk ng ek : Int) : Prop := (ek ≠ 0 ∧ na = a ∧ nb = b ∧ nk = k ∧ ng = g) ∨ (ek = 0 ∧ nb = spE pSp T n a ∧ SCK T n nb g na nk ng)
