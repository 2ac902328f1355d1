/-! a callee's cells as the tail of the world -/
theorem lo_ps_tail {pre w0 : va_W} {k n : Nat} (hk : pre.length = k) (hn : w0.length = n) : (List.range' k n).map (fun i => (pre ++ w0)[i]?) = w0.map some := by
  subst hk
  subst hn
  apply List.ext_getElem?
  intro i
  rw [List.getElem?_map, List.getElem?_map]
  by_cases h : i < w0.length
  · rw [List.getElem?_range' h, List.getElem?_eq_getElem h]
    show some ((pre ++ w0)[pre.length + 1 * i]?) = some (some w0[i])
    rw [Nat.one_mul, List.getElem?_append_right (Nat.le_add_right _ _), Nat.add_sub_cancel_left, List.getElem?_eq_getElem h]
  · rw [List.getElem?_eq_none (by rw [List.length_range']; omega), List.getElem?_eq_none (by omega)]
    rfl
theorem lo_sets_tail : ∀ {n k : Nat} {pre w0 w1 : va_W}, pre.length = k → w0.length = n → w1.length = n → lo_sets (pre ++ w0) (List.range' k n) w1 = pre ++ w1
  | 0, k, pre, [], [], _, _, _ => rfl
  | n + 1, k, pre, a :: w0, b :: w1, hk, h0, h1 => by
    show lo_sets ((pre ++ a :: w0).set k b) (List.range' (k + 1) n) w1 = pre ++ b :: w1
    have e : (pre ++ a :: w0).set k b = (pre ++ [b]) ++ w0 := by
      subst hk
      rw [List.set_append_right _ _ (Nat.le_refl _), Nat.sub_self, List.append_assoc]
      rfl
    rw [e, lo_sets_tail (k := k + 1) (pre := pre ++ [b]) (by rw [List.length_append, hk]; rfl) (by simpa using h0) (by simpa using h1), List.append_assoc]
    rfl
