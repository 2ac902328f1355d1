/-! the reference's past: eight rows, and the order in which the outer array holds them -/
def rq (r q : Nat → Nat) : Nat → Nat := fun j => r (q j)
theorem rq_u {r q : Nat → Nat} {k x : Nat} : uF (rq r q) k (r x) = rq r (uF q k x) := by
  funext j
  by_cases h : j = k
  · simp [uF, rq, h]
  · simp [uF, rq, h]
def shQ (q : Nat → Nat) (i : Int) : Nat → Nat := fun j => if (j : Int) + 1 < i then q (j + 1) else q j
theorem shQ_1 (q : Nat → Nat) : shQ q 1 = q := by funext j; exact if_neg (by omega)
theorem shQ_s {q : Nat → Nat} {i : Int} (h : 1 ≤ i) : uF (shQ q i) (i - 1).toNat (shQ q i i.toNat) = shQ q (i + 1) := by
  funext j
  unfold uF
  by_cases e : j = (i - 1).toNat
  · rw [if_pos e]
    unfold shQ
    rw [if_neg (by omega), if_pos (by omega), show j + 1 = i.toNat by omega]
  · rw [if_neg e]
    unfold shQ
    by_cases h2 : (j : Int) + 1 < i
    · rw [if_pos h2, if_pos (by omega)]
    · rw [if_neg h2, if_neg (by omega)]
theorem shQ_r {q : Nat → Nat} {i : Int} (hi : i ≤ 8) (h : ∀ j, j < 8 → q j < 8) : ∀ j, j < 8 → shQ q i j < 8 := by
  intro j hj
  unfold shQ
  by_cases h2 : (j : Int) + 1 < i
  · rw [if_pos h2]; exact h _ (by omega)
  · rw [if_neg h2]; exact h _ hj
def rotQ (q : Nat → Nat) : Nat → Nat := uF (shQ q 8) 7 (q 0)
def rmQ (q : Nat → Nat) (m : Int) : Nat → Nat := if m = 8 then rotQ q else q
theorem rmQ_8 {q : Nat → Nat} {m : Int} (h : m = 8) : rmQ q m = rotQ q := if_pos h
theorem rmQ_n {q : Nat → Nat} {m : Int} (h : m ≠ 8) : rmQ q m = q := if_neg h
theorem rotQ_r {q : Nat → Nat} (h : ∀ j, j < 8 → q j < 8) : ∀ j, j < 8 → rotQ q j < 8 := by
  intro j hj
  unfold rotQ uF
  by_cases e : j = 7
  · rw [if_pos e]; exact h 0 (by omega)
  · rw [if_neg e]; exact shQ_r (by omega) h j hj
theorem rmQ_r {q : Nat → Nat} {m : Int} (h : ∀ j, j < 8 → q j < 8) : ∀ j, j < 8 → rmQ q m j < 8 := by
  intro j hj
  unfold rmQ
  by_cases e : m = 8
  · rw [if_pos e]; exact rotQ_r h j hj
  · rw [if_neg e]; exact h j hj
/-- the rows behind 'remember' -/
def rmC {α : Type} (C : Nat → α) (q : Nat → Nat) (m : Int) (g : α) : Nat → α := uF C (rmQ q m (min m 7).toNat) g
/-- eight rows -/
abbrev rwW (X : KX) (r : Nat → Nat) (C : Nat → Nat → Int) : va_W := [arI X (r 0) 122 (C 0), arI X (r 1) 122 (C 1), arI X (r 2) 122 (C 2), arI X (r 3) 122 (C 3), arI X (r 4) 122 (C 4), arI X (r 5) 122 (C 5), arI X (r 6) 122 (C 6), arI X (r 7) 122 (C 7)]
theorem rw_at {X : KX} {r : Nat → Nat} {C : Nat → Nat → Int} {i : Nat} (hi : i < 8) : (rwW X r C)[i]? = some (arI X (r i) 122 (C i)) := by
  match i, hi with
  | 0, _ => rfl
  | 1, _ => rfl
  | 2, _ => rfl
  | 3, _ => rfl
  | 4, _ => rfl
  | 5, _ => rfl
  | 6, _ => rfl
  | 7, _ => rfl
theorem rw_set {X : KX} {r : Nat → Nat} {C : Nat → Nat → Int} {i : Nat} (hi : i < 8) (g : Nat → Int) : (rwW X r C).set i (arI X (r i) 122 g) = rwW X r (uF C i g) := by
  match i, hi with
  | 0, _ => rfl
  | 1, _ => rfl
  | 2, _ => rfl
  | 3, _ => rfl
  | 4, _ => rfl
  | 5, _ => rfl
  | 6, _ => rfl
  | 7, _ => rfl
theorem rwW_atE {X : KX} {pre : va_W} {r : Nat → Nat} {C : Nat → Nat → Int} {k i : Nat} (hk : pre.length = k) (hi : i < 8) : (pre ++ rwW X r C)[k + i]? = some (arI X (r i) 122 (C i)) := by
  subst hk
  rw [List.getElem?_append_right (Nat.le_add_right _ _), Nat.add_sub_cancel_left]
  exact rw_at hi
theorem rwW_setE {X : KX} {pre : va_W} {r : Nat → Nat} {C : Nat → Nat → Int} {k i : Nat} (hk : pre.length = k) (hi : i < 8) (g : Nat → Int) : (pre ++ rwW X r C).set (k + i) (arI X (r i) 122 g) = pre ++ rwW X r (uF C i g) := by
  subst hk
  rw [List.set_append_right _ _ (Nat.le_add_right _ _), Nat.add_sub_cancel_left, rw_set hi]
/-- a row copied into one of the eight -/
theorem rwW_cp {X : KX} {pre : va_W} {r : Nat → Nat} {C : Nat → Nat → Int} {j k i : Nat} {x : Nat × va_E} {g : Nat → Int} (hj : pre[j]? = some x) (hk : pre.length = k) (hi : i < 8) : lo_sets (pre ++ rwW X r C) [j, k + i] [x, arI X (r i) 122 g] = pre ++ rwW X r (uF C i g) := by
  show ((pre ++ rwW X r C).set j x).set (k + i) _ = _
  have hjl := (List.getElem?_eq_some_iff.mp hj).1
  have e : (pre ++ rwW X r C).set j x = pre ++ rwW X r C := lo_set_same (by rw [List.getElem?_append_left hjl]; exact hj)
  rw [e]
  exact rwW_setE hk hi g
/-- one of the eight copied into a row ahead of them -/
theorem rwW_cp2 {X : KX} {pre pre2 : va_W} {r : Nat → Nat} {C : Nat → Nat → Int} {j k i : Nat} {y : Nat × va_E} (hp : pre.set j y = pre2) (hk : pre.length = k) (hj : j < k) (hi : i < 8) : lo_sets (pre ++ rwW X r C) [k + i, j] [arI X (r i) 122 (C i), y] = pre2 ++ rwW X r C := by
  show ((pre ++ rwW X r C).set (k + i) _).set j y = _
  have e : (pre ++ rwW X r C).set (k + i) (arI X (r i) 122 (C i)) = pre ++ rwW X r C := lo_set_same (rwW_atE hk hi)
  rw [e, List.set_append_left _ _ (by omega), hp]
theorem nd_2 {a b : Nat} (h : a ≠ b) : va_nd [a, b] = true := by simp [va_nd, h]
/-- the fields but the thrown code, the past's count and the walk's -/
def sameQ (M N : Nat → Int) : Prop := ∀ k, k ≠ 0 → k ≠ 3 → (k < 12 ∨ 17 < k) → k ≠ 28 → N k = M k
