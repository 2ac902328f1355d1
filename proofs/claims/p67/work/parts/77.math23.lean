/-! the class's scanner -/
theorem sB_r {T : Nat → Int} (h : ∀ k : Nat, 0 ≤ T k ∧ T k ≤ 255) (k : Nat) : (0 ≤ T k ∧ T k ≤ 127 ∧ sB T k = T k) ∨ (128 ≤ T k ∧ T k ≤ 255 ∧ sB T k = T k - 256) := by
  have hk := h k
  unfold sB
  by_cases e : T k < 128
  · rw [if_pos e]; omega
  · rw [if_neg e]; omega
/-- a word, a number, a sign, or the end, as the class numbers them -/
def SCK (T : Nat → Int) (n b g0 a k g : Int) : Prop :=
  (b = n ∧ a = b ∧ k = 0 ∧ g = g0) ∨
  (b < n ∧ pLe (T b.toNat) ∧ a = spE pLe T n b ∧ k = 1 ∧ g = g0) ∨
  (b < n ∧ pDi (T b.toNat) ∧ a = spE pDi T n b ∧ g = fgE T n b b 0 ∧ ((k = 4 ∧ 7 < a - b) ∨ (k = 2 ∧ a - b ≤ 7))) ∨
  (b < n ∧ ¬ pLe (T b.toNat) ∧ ¬ pDi (T b.toNat) ∧ a = b + 1 ∧ g = g0 ∧ (((T b.toNat = 59 ∨ T b.toNat = 40 ∨ T b.toNat = 41) ∧ k = 3) ∨ (T b.toNat ≠ 59 ∧ T b.toNat ≠ 40 ∧ T b.toNat ≠ 41 ∧ k = 4)))
theorem spn_r (p : Int → Prop) [DecidablePred p] (T : Nat → Int) (n : Int) : ∀ (k : Nat) (x : Int), x ≤ n → x ≤ spn p T n k x ∧ spn p T n k x ≤ n := by
  intro k
  induction k with
  | zero => intro x h; exact ⟨Int.le_refl x, h⟩
  | succ k ih =>
    intro x h
    unfold spn
    by_cases c : x < n ∧ p (T x.toNat)
    · rw [if_pos c]
      have h2 := ih (x + 1) (by omega)
      omega
    · rw [if_neg c]
      exact ⟨Int.le_refl x, h⟩
theorem spE_r (p : Int → Prop) [DecidablePred p] {T : Nat → Int} {n x : Int} (h : x ≤ n) : x ≤ spE p T n x ∧ spE p T n x ≤ n := spn_r p T n _ x h
