/-! a word of the script -/
def wdM (T : Nat → Int) (s : Int) (t : List Int) (x : Int) : Prop := ∀ k : Nat, k < x.toNat → T (s.toNat + k) = t.getD k 0
def isW (T : Nat → Int) (s a : Int) (t : List Int) : Prop := a - s = t.length ∧ wdM T s t t.length
theorem wdM_0 {T : Nat → Int} {s : Int} {t : List Int} : wdM T s t 0 := fun k h => absurd h (Nat.not_lt_zero k)
theorem wdM_s {T : Nat → Int} {s x : Int} {t : List Int} (hs : 0 ≤ s) (hx : 0 ≤ x) (h : wdM T s t x) (e : T (s + x).toNat = t.getD x.toNat 0) : wdM T s t (x + 1) := by
  intro k hk
  by_cases c : k < x.toNat
  · exact h k c
  · rw [show k = x.toNat by omega, ← e, show s.toNat + x.toNat = (s + x).toNat by omega]
theorem isW_y {T : Nat → Int} {s a x : Int} {t : List Int} (e : a - s = t.length) (hx : x = t.length) (h : wdM T s t x) : isW T s a t := ⟨e, by rw [← hx]; exact h⟩
theorem isW_n {T : Nat → Int} {s a x : Int} {t : List Int} (hs : 0 ≤ s) (hx : 0 ≤ x ∧ x < t.length) (e : T (s + x).toNat ≠ t.getD x.toNat 0) : ¬ isW T s a t := fun h => e (by
  rw [show (s + x).toNat = s.toNat + x.toNat by omega]
  exact h.2 x.toNat (by omega))
theorem isW_l {T : Nat → Int} {s a : Int} {t : List Int} (e : a - s ≠ t.length) : ¬ isW T s a t := fun h => e h.1
