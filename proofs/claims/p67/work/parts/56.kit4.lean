/-! Math.max; sums over the class's loans -/
def plBad (P : PT) : Nat → Int
  | 0 => 0
  | k + 1 => plBad P k + (if 0 < PL P k 1 ∧ PL P k 4 < lastL 120 (PL P k) 0 then 1 else 0)
theorem plBad_y {P : PT} {i : Int} (h : 0 ≤ i) (hc : 0 < PL P i.toNat 1 ∧ PL P i.toNat 4 < lastL 120 (PL P i.toNat) 0) : plBad P (i + 1).toNat = plBad P i.toNat + 1 := by
  rw [show (i + 1).toNat = i.toNat + 1 by omega]
  show plBad P i.toNat + (if _ then _ else _) = _
  rw [if_pos hc]
theorem plBad_n {P : PT} {i : Int} (h : 0 ≤ i) (hc : ¬ (0 < PL P i.toNat 1 ∧ PL P i.toNat 4 < lastL 120 (PL P i.toNat) 0)) : plBad P (i + 1).toNat = plBad P i.toNat := by
  rw [show (i + 1).toNat = i.toNat + 1 by omega]
  show plBad P i.toNat + (if _ then _ else _) = _
  rw [if_neg hc, Int.add_zero]
