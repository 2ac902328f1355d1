/-! places of a block in a world -/
theorem lo_ps_blk {W pre B suf w : va_W} {ps : List Nat} {k n : Nat} (hW : W = pre ++ (B ++ suf)) (hk : pre.length = k) (hn : B.length = n) (h : ps.map (fun i => W[i]?) = w.map some) : (List.range' k n ++ ps).map (fun i => W[i]?) = (B ++ w).map some := by
  subst hn
  subst hk
  rw [List.map_append, List.map_append, h]
  congr 1
  rw [hW]
  refine List.ext_getElem (by simp) (fun i h1 h2 => ?_)
  simp only [List.length_map, List.length_range'] at h1
  simp only [List.getElem_map, List.getElem_range', Nat.one_mul]
  rw [List.getElem?_append_right (Nat.le_add_right _ _), Nat.add_sub_cancel_left, List.getElem?_append_left h1, List.getElem?_eq_getElem h1]
theorem lo_sets_one {B2 : va_W} : ∀ {pre B suf : va_W} {ws : va_W} {ps : List Nat}, B2.length = B.length → lo_sets (pre ++ (B ++ suf)) (List.range' pre.length B.length ++ ps) (B2 ++ ws) = lo_sets (pre ++ (B2 ++ suf)) ps ws := by
  induction B2 with
  | nil =>
    intro pre B suf ws ps h
    have e : B = [] := List.length_eq_zero_iff.mp h.symm
    rw [e]; rfl
  | cons x t ih =>
    intro pre B suf ws ps h
    cases B with
    | nil => cases h
    | cons y s =>
      show lo_sets ((pre ++ (y :: (s ++ suf))).set pre.length x) (List.range' (pre.length + 1) s.length ++ ps) (t ++ ws) = _
      have e : (pre ++ (y :: (s ++ suf))).set pre.length x = (pre ++ [x]) ++ (s ++ suf) := by
        rw [List.set_append_right _ _ (Nat.le_refl _), Nat.sub_self, List.append_assoc]; rfl
      rw [e]
      have q := ih (pre := pre ++ [x]) (B := s) (suf := suf) (ws := ws) (ps := ps) (by simpa using h)
      rw [show (pre ++ [x]).length = pre.length + 1 by simp] at q
      rw [q, List.append_assoc]
      rfl
theorem lo_sets_blk {pre B B2 suf ws : va_W} {ps : List Nat} {k n : Nat} (hk : pre.length = k) (hn : B.length = n) (h2 : B2.length = n) : lo_sets (pre ++ (B ++ suf)) (List.range' k n ++ ps) (B2 ++ ws) = lo_sets (pre ++ (B2 ++ suf)) ps ws := by
  subst hk
  subst hn
  exact lo_sets_one h2
