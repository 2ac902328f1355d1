set_option maxHeartbeats 1000000 in
set_option maxRecDepth 100000 in
theorem qX7_principal (l : Launch) (X : KX) (kS : Nat → Nat) (D : AD9) (Z : CZ) (i : Int) (hPI : PI (zP Z)) (hin : 0 ≤ i ∧ i < Pn (zP Z)) : CE l X kS yX7_principal wsX7_principal ({ frames := 7, cells := 0, slots := 0, locals := 121 }) [.ref (D.1 0), .int (iI i)] (wC X D Z) (fun v9 w9 => ∃ t : Nat → Int, True ∧ v9 = some (.int (iI (PL (zP Z) i.toNat 0))) ∧ w9 = wC X D (zUA Z t)) 0 0 :=
  (uX7_principaln l X D.1 D.2.1 D.2.2.1 D.2.2.2.1 D.2.2.2.2.1 D.2.2.2.2.2.1 D.2.2.2.2.2.2.1 D.2.2.2.2.2.2.2.1 D.2.2.2.2.2.2.2.2 Z i hPI (by have := hPI.1; omega) hin).toE.weak (fun v w ⟨f0, hv, hw⟩ => ⟨zA Z, trivial, hv, hw⟩)
set_option maxHeartbeats 1000000 in
set_option maxRecDepth 100000 in
theorem qX7_balance (l : Launch) (X : KX) (kS : Nat → Nat) (D : AD9) (Z : CZ) (i : Int) (hPI : PI (zP Z)) (hin : 0 ≤ i ∧ i < Pn (zP Z)) : CE l X kS yX7_balance wsX7_balance ({ frames := 7, cells := 0, slots := 0, locals := 121 }) [.ref (D.1 0), .int (iI i)] (wC X D Z) (fun v9 w9 => ∃ t : Nat → Int, True ∧ v9 = some (.int (iI (PL (zP Z) i.toNat 1))) ∧ w9 = wC X D (zUA Z t)) 0 0 :=
  (uX7_balancen l X D.1 D.2.1 D.2.2.1 D.2.2.2.1 D.2.2.2.2.1 D.2.2.2.2.2.1 D.2.2.2.2.2.2.1 D.2.2.2.2.2.2.2.1 D.2.2.2.2.2.2.2.2 Z i hPI (by have := hPI.1; omega) hin).toE.weak (fun v w ⟨f0, hv, hw⟩ => ⟨zA Z, trivial, hv, hw⟩)
set_option maxHeartbeats 1000000 in
set_option maxRecDepth 100000 in
theorem qX7_rate (l : Launch) (X : KX) (kS : Nat → Nat) (D : AD9) (Z : CZ) (i : Int) (hPI : PI (zP Z)) (hin : 0 ≤ i ∧ i < Pn (zP Z)) : CE l X kS yX7_rate wsX7_rate ({ frames := 7, cells := 0, slots := 0, locals := 121 }) [.ref (D.1 0), .int (iI i)] (wC X D Z) (fun v9 w9 => ∃ t : Nat → Int, True ∧ v9 = some (.int (iI (PL (zP Z) i.toNat 2))) ∧ w9 = wC X D (zUA Z t)) 0 0 :=
  (uX7_raten l X D.1 D.2.1 D.2.2.1 D.2.2.2.1 D.2.2.2.2.1 D.2.2.2.2.2.1 D.2.2.2.2.2.2.1 D.2.2.2.2.2.2.2.1 D.2.2.2.2.2.2.2.2 Z i hPI (by have := hPI.1; omega) hin).toE.weak (fun v w ⟨f0, hv, hw⟩ => ⟨zA Z, trivial, hv, hw⟩)
set_option maxHeartbeats 1000000 in
set_option maxRecDepth 100000 in
theorem qX7_monthsLeft (l : Launch) (X : KX) (kS : Nat → Nat) (D : AD9) (Z : CZ) (i : Int) (hPI : PI (zP Z)) (hin : 0 ≤ i ∧ i < Pn (zP Z)) : CE l X kS yX7_monthsLeft wsX7_monthsLeft ({ frames := 7, cells := 0, slots := 0, locals := 121 }) [.ref (D.1 0), .int (iI i)] (wC X D Z) (fun v9 w9 => ∃ t : Nat → Int, True ∧ v9 = some (.int (iI (PL (zP Z) i.toNat 3))) ∧ w9 = wC X D (zUA Z t)) 0 0 :=
  (uX7_monthsLeftn l X D.1 D.2.1 D.2.2.1 D.2.2.2.1 D.2.2.2.2.1 D.2.2.2.2.2.1 D.2.2.2.2.2.2.1 D.2.2.2.2.2.2.2.1 D.2.2.2.2.2.2.2.2 Z i hPI (by have := hPI.1; omega) hin).toE.weak (fun v w ⟨f0, hv, hw⟩ => ⟨zA Z, trivial, hv, hw⟩)
set_option maxHeartbeats 1000000 in
set_option maxRecDepth 100000 in
theorem qX7_installment (l : Launch) (X : KX) (kS : Nat → Nat) (D : AD9) (Z : CZ) (i : Int) (hPI : PI (zP Z)) (hin : 0 ≤ i ∧ i < Pn (zP Z)) : CE l X kS yX7_installment wsX7_installment ({ frames := 7, cells := 0, slots := 0, locals := 121 }) [.ref (D.1 0), .int (iI i)] (wC X D Z) (fun v9 w9 => ∃ t : Nat → Int, True ∧ v9 = some (.int (iI (PL (zP Z) i.toNat 4))) ∧ w9 = wC X D (zUA Z t)) 0 0 :=
  (uX7_installmentn l X D.1 D.2.1 D.2.2.1 D.2.2.2.1 D.2.2.2.2.1 D.2.2.2.2.2.1 D.2.2.2.2.2.2.1 D.2.2.2.2.2.2.2.1 D.2.2.2.2.2.2.2.2 Z i hPI (by have := hPI.1; omega) hin).toE.weak (fun v w ⟨f0, hv, hw⟩ => ⟨zA Z, trivial, hv, hw⟩)
set_option maxHeartbeats 1000000 in
set_option maxRecDepth 100000 in
theorem qX7_carry (l : Launch) (X : KX) (kS : Nat → Nat) (D : AD9) (Z : CZ) (i : Int) (hPI : PI (zP Z)) (hin : 0 ≤ i ∧ i < Pn (zP Z)) : CE l X kS yX7_carry wsX7_carry ({ frames := 7, cells := 0, slots := 0, locals := 121 }) [.ref (D.1 0), .int (iI i)] (wC X D Z) (fun v9 w9 => ∃ t : Nat → Int, True ∧ v9 = some (.int (iI (PL (zP Z) i.toNat 5))) ∧ w9 = wC X D (zUA Z t)) 0 0 :=
  (uX7_carryn l X D.1 D.2.1 D.2.2.1 D.2.2.2.1 D.2.2.2.2.1 D.2.2.2.2.2.1 D.2.2.2.2.2.2.1 D.2.2.2.2.2.2.2.1 D.2.2.2.2.2.2.2.2 Z i hPI (by have := hPI.1; omega) hin).toE.weak (fun v w ⟨f0, hv, hw⟩ => ⟨zA Z, trivial, hv, hw⟩)
set_option maxHeartbeats 1000000 in
set_option maxRecDepth 100000 in
theorem qX7_interestSoFar (l : Launch) (X : KX) (kS : Nat → Nat) (D : AD9) (Z : CZ) (i : Int) (hPI : PI (zP Z)) (hin : 0 ≤ i ∧ i < Pn (zP Z)) : CE l X kS yX7_interestSoFar wsX7_interestSoFar ({ frames := 7, cells := 0, slots := 0, locals := 121 }) [.ref (D.1 0), .int (iI i)] (wC X D Z) (fun v9 w9 => ∃ t : Nat → Int, True ∧ v9 = some (.int (iI (PL (zP Z) i.toNat 6))) ∧ w9 = wC X D (zUA Z t)) 0 0 :=
  (uX7_interestSoFarn l X D.1 D.2.1 D.2.2.1 D.2.2.2.1 D.2.2.2.2.1 D.2.2.2.2.2.1 D.2.2.2.2.2.2.1 D.2.2.2.2.2.2.2.1 D.2.2.2.2.2.2.2.2 Z i hPI (by have := hPI.1; omega) hin).toE.weak (fun v w ⟨f0, hv, hw⟩ => ⟨zA Z, trivial, hv, hw⟩)
set_option maxHeartbeats 1000000 in
set_option maxRecDepth 100000 in
theorem qX7_paidSoFar (l : Launch) (X : KX) (kS : Nat → Nat) (D : AD9) (Z : CZ) (i : Int) (hPI : PI (zP Z)) (hin : 0 ≤ i ∧ i < Pn (zP Z)) : CE l X kS yX7_paidSoFar wsX7_paidSoFar ({ frames := 7, cells := 0, slots := 0, locals := 121 }) [.ref (D.1 0), .int (iI i)] (wC X D Z) (fun v9 w9 => ∃ t : Nat → Int, True ∧ v9 = some (.int (iI (PL (zP Z) i.toNat 7))) ∧ w9 = wC X D (zUA Z t)) 0 0 :=
  (uX7_paidSoFarn l X D.1 D.2.1 D.2.2.1 D.2.2.2.1 D.2.2.2.2.1 D.2.2.2.2.2.1 D.2.2.2.2.2.2.1 D.2.2.2.2.2.2.2.1 D.2.2.2.2.2.2.2.2 Z i hPI (by have := hPI.1; omega) hin).toE.weak (fun v w ⟨f0, hv, hw⟩ => ⟨zA Z, trivial, hv, hw⟩)
set_option maxHeartbeats 1000000 in
set_option maxRecDepth 100000 in
theorem qX7_paidMonths (l : Launch) (X : KX) (kS : Nat → Nat) (D : AD9) (Z : CZ) (i : Int) (hPI : PI (zP Z)) (hin : 0 ≤ i ∧ i < Pn (zP Z)) : CE l X kS yX7_paidMonths wsX7_paidMonths ({ frames := 7, cells := 0, slots := 0, locals := 121 }) [.ref (D.1 0), .int (iI i)] (wC X D Z) (fun v9 w9 => ∃ t : Nat → Int, True ∧ v9 = some (.int (iI (PL (zP Z) i.toNat 8))) ∧ w9 = wC X D (zUA Z t)) 0 0 :=
  (uX7_paidMonthsn l X D.1 D.2.1 D.2.2.1 D.2.2.2.1 D.2.2.2.2.1 D.2.2.2.2.2.1 D.2.2.2.2.2.2.1 D.2.2.2.2.2.2.2.1 D.2.2.2.2.2.2.2.2 Z i hPI (by have := hPI.1; omega) hin).toE.weak (fun v w ⟨f0, hv, hw⟩ => ⟨zA Z, trivial, hv, hw⟩)
set_option maxHeartbeats 1000000 in
set_option maxRecDepth 100000 in
theorem qX7_skippedMonths (l : Launch) (X : KX) (kS : Nat → Nat) (D : AD9) (Z : CZ) (i : Int) (hPI : PI (zP Z)) (hin : 0 ≤ i ∧ i < Pn (zP Z)) : CE l X kS yX7_skippedMonths wsX7_skippedMonths ({ frames := 7, cells := 0, slots := 0, locals := 121 }) [.ref (D.1 0), .int (iI i)] (wC X D Z) (fun v9 w9 => ∃ t : Nat → Int, True ∧ v9 = some (.int (iI (PL (zP Z) i.toNat 9))) ∧ w9 = wC X D (zUA Z t)) 0 0 :=
  (uX7_skippedMonthsn l X D.1 D.2.1 D.2.2.1 D.2.2.2.1 D.2.2.2.2.1 D.2.2.2.2.2.1 D.2.2.2.2.2.2.1 D.2.2.2.2.2.2.2.1 D.2.2.2.2.2.2.2.2 Z i hPI (by have := hPI.1; omega) hin).toE.weak (fun v w ⟨f0, hv, hw⟩ => ⟨zA Z, trivial, hv, hw⟩)
set_option maxHeartbeats 1000000 in
set_option maxRecDepth 100000 in
theorem qX7_isOpen (l : Launch) (X : KX) (kS : Nat → Nat) (D : AD9) (Z : CZ) (i : Int) (hPI : PI (zP Z)) (hin : 0 ≤ i ∧ i < Pn (zP Z)) : CE l X kS yX7_isOpen wsX7_isOpen ({ frames := 7, cells := 0, slots := 0, locals := 121 }) [.ref (D.1 0), .int (iI i)] (wC X D Z) (fun v9 w9 => ∃ t : Nat → Int, True ∧ v9 = some (.int (iI (opz (PL (zP Z) i.toNat)))) ∧ w9 = wC X D (zUA Z t)) 0 0 :=
  (uX7_isOpenn l X D.1 D.2.1 D.2.2.1 D.2.2.2.1 D.2.2.2.2.1 D.2.2.2.2.2.1 D.2.2.2.2.2.2.1 D.2.2.2.2.2.2.2.1 D.2.2.2.2.2.2.2.2 Z i hPI (by have := hPI.1; omega) hin).toE.weak (fun v w ⟨z, f0, f1, hv, hw⟩ => ⟨zA Z, trivial, by rw [← opz_e f1]; exact hv, hw⟩)
set_option maxHeartbeats 1000000 in
set_option maxRecDepth 100000 in
theorem qX7_interestDue (l : Launch) (X : KX) (kS : Nat → Nat) (D : AD9) (Z : CZ) (i : Int) (hPI : PI (zP Z)) (hin : 0 ≤ i ∧ i < Pn (zP Z)) : CE l X kS yX7_interestDue wsX7_interestDue ({ frames := 7, cells := 0, slots := 0, locals := 121 }) [.ref (D.1 0), .int (iI i)] (wC X D Z) (fun v9 w9 => ∃ t : Nat → Int, True ∧ v9 = some (.int (iI (fI (PL (zP Z) i.toNat 1) (PL (zP Z) i.toNat 2) (PL (zP Z) i.toNat 5)))) ∧ w9 = wC X D (zUA Z t)) 0 0 :=
  (uX7_interestDuen l X D.1 D.2.1 D.2.2.1 D.2.2.2.1 D.2.2.2.2.1 D.2.2.2.2.2.1 D.2.2.2.2.2.2.1 D.2.2.2.2.2.2.2.1 D.2.2.2.2.2.2.2.2 Z i hPI (by have := hPI.1; omega) hin).toE.weak (fun v w ⟨f0, hv, hw⟩ => ⟨zA Z, trivial, hv, hw⟩)
set_option maxHeartbeats 1000000 in
set_option maxRecDepth 100000 in
theorem qX7_amountDue (l : Launch) (X : KX) (kS : Nat → Nat) (D : AD9) (Z : CZ) (i : Int) (hPI : PI (zP Z)) (hin : 0 ≤ i ∧ i < Pn (zP Z)) : CE l X kS yX7_amountDue wsX7_amountDue ({ frames := 7, cells := 0, slots := 0, locals := 121 }) [.ref (D.1 0), .int (iI i)] (wC X D Z) (fun v9 w9 => ∃ t : Nat → Int, True ∧ v9 = some (.int (iI (dueL (PL (zP Z) i.toNat)))) ∧ w9 = wC X D (zUA Z t)) 0 0 :=
  (uX7_amountDuen l X D.1 D.2.1 D.2.2.1 D.2.2.2.1 D.2.2.2.2.1 D.2.2.2.2.2.1 D.2.2.2.2.2.2.1 D.2.2.2.2.2.2.2.1 D.2.2.2.2.2.2.2.2 Z i hPI (by have := hPI.1; omega) hin).toE.weak (fun v w ⟨f0, hv, hw⟩ => ⟨zA Z, trivial, hv, hw⟩)
set_option maxHeartbeats 1000000 in
set_option maxRecDepth 100000 in
theorem qX7_interestAhead (l : Launch) (X : KX) (kS : Nat → Nat) (D : AD9) (Z : CZ) (i : Int) (hPI : PI (zP Z)) (hin : 0 ≤ i ∧ i < Pn (zP Z)) : CE l X kS yX7_interestAhead wsX7_interestAhead ({ frames := 7, cells := 0, slots := 0, locals := 121 }) [.ref (D.1 0), .int (iI i)] (wC X D Z) (fun v9 w9 => ∃ t : Nat → Int, True ∧ v9 = some (.int (iI (runL 120 (PL (zP Z) i.toNat) 6 - PL (zP Z) i.toNat 6))) ∧ w9 = wC X D (zUA Z t)) 0 0 :=
  (uX7_interestAheadn l X D.1 D.2.1 D.2.2.1 D.2.2.2.1 D.2.2.2.2.1 D.2.2.2.2.2.1 D.2.2.2.2.2.2.1 D.2.2.2.2.2.2.2.1 D.2.2.2.2.2.2.2.2 Z i hPI (by have := hPI.1; omega) hin).toE.weak (fun v w ⟨A9, f0, hv, hw⟩ => ⟨A9, trivial, hv, hw⟩)
set_option maxHeartbeats 1000000 in
set_option maxRecDepth 100000 in
theorem qX7_lastDue (l : Launch) (X : KX) (kS : Nat → Nat) (D : AD9) (Z : CZ) (i : Int) (hPI : PI (zP Z)) (hin : 0 ≤ i ∧ i < Pn (zP Z)) : CE l X kS yX7_lastDue wsX7_lastDue ({ frames := 7, cells := 0, slots := 0, locals := 121 }) [.ref (D.1 0), .int (iI i)] (wC X D Z) (fun v9 w9 => ∃ t : Nat → Int, True ∧ v9 = some (.int (iI (lastL 120 (PL (zP Z) i.toNat) 0))) ∧ w9 = wC X D (zUA Z t)) 0 0 :=
  (uX7_lastDuen l X D.1 D.2.1 D.2.2.1 D.2.2.2.1 D.2.2.2.2.1 D.2.2.2.2.2.1 D.2.2.2.2.2.2.1 D.2.2.2.2.2.2.2.1 D.2.2.2.2.2.2.2.2 Z i hPI (by have := hPI.1; omega) hin).toE.weak (fun v w ⟨A9, f0, hv, hw⟩ => ⟨A9, trivial, hv, hw⟩)
set_option maxHeartbeats 1000000 in
set_option maxRecDepth 100000 in
theorem qX7_interestOfPayment (l : Launch) (X : KX) (kS : Nat → Nat) (D : AD9) (Z : CZ) (i k : Int) (hPI : PI (zP Z)) (hin : 0 ≤ i ∧ i < Pn (zP Z)) (hkk : 1 ≤ k ∧ k ≤ 120) : CE l X kS yX7_interestOfPayment wsX7_interestOfPayment ({ frames := 7, cells := 0, slots := 0, locals := 122 }) [.ref (D.1 0), .int (iI i), .int (iI k)] (wC X D Z) (fun v9 w9 => ∃ t : Nat → Int, True ∧ v9 = some (.int (iI (ipz (PL (zP Z) i.toNat) k))) ∧ w9 = wC X D (zUA Z t)) 0 0 :=
  (uX7_interestOfPaymentn l X D.1 D.2.1 D.2.2.1 D.2.2.2.1 D.2.2.2.2.1 D.2.2.2.2.2.1 D.2.2.2.2.2.2.1 D.2.2.2.2.2.2.2.1 D.2.2.2.2.2.2.2.2 Z i k hPI (by have := hPI.1; omega) (by omega) hin hkk).toE.weak (fun v w ⟨A9, z, f0, f1, f2, hv, hw⟩ => ⟨A9, trivial, by rw [← ipz_e f2]; exact hv, hw⟩)
set_option maxHeartbeats 1000000 in
set_option maxRecDepth 100000 in
theorem qX7_amountOfPayment (l : Launch) (X : KX) (kS : Nat → Nat) (D : AD9) (Z : CZ) (i k : Int) (hPI : PI (zP Z)) (hin : 0 ≤ i ∧ i < Pn (zP Z)) (hkk : 1 ≤ k ∧ k ≤ 120) : CE l X kS yX7_amountOfPayment wsX7_amountOfPayment ({ frames := 7, cells := 0, slots := 0, locals := 122 }) [.ref (D.1 0), .int (iI i), .int (iI k)] (wC X D Z) (fun v9 w9 => ∃ t : Nat → Int, True ∧ v9 = some (.int (iI (apz (PL (zP Z) i.toNat) k))) ∧ w9 = wC X D (zUA Z t)) 0 0 :=
  (uX7_amountOfPaymentn l X D.1 D.2.1 D.2.2.1 D.2.2.2.1 D.2.2.2.2.1 D.2.2.2.2.2.1 D.2.2.2.2.2.2.1 D.2.2.2.2.2.2.2.1 D.2.2.2.2.2.2.2.2 Z i k hPI (by have := hPI.1; omega) (by omega) hin hkk).toE.weak (fun v w ⟨A9, z, f0, f1, f2, hv, hw⟩ => ⟨A9, trivial, by rw [← apz_e f2]; exact hv, hw⟩)
set_option maxHeartbeats 1000000 in
set_option maxRecDepth 100000 in
theorem qX7_balanceAfter (l : Launch) (X : KX) (kS : Nat → Nat) (D : AD9) (Z : CZ) (i k : Int) (hPI : PI (zP Z)) (hin : 0 ≤ i ∧ i < Pn (zP Z)) (hkk : 0 ≤ k ∧ k ≤ 120) : CE l X kS yX7_balanceAfter wsX7_balanceAfter ({ frames := 7, cells := 0, slots := 0, locals := 122 }) [.ref (D.1 0), .int (iI i), .int (iI k)] (wC X D Z) (fun v9 w9 => ∃ t : Nat → Int, True ∧ v9 = some (.int (iI (runL k.toNat (PL (zP Z) i.toNat) 1))) ∧ w9 = wC X D (zUA Z t)) 0 0 :=
  (uX7_balanceAftern l X D.1 D.2.1 D.2.2.1 D.2.2.2.1 D.2.2.2.2.1 D.2.2.2.2.2.1 D.2.2.2.2.2.2.1 D.2.2.2.2.2.2.2.1 D.2.2.2.2.2.2.2.2 Z i k hPI (by have := hPI.1; omega) (by omega) hin hkk).toE.weak (fun v w ⟨A9, f0, f1, hv, hw⟩ => ⟨A9, trivial, hv, hw⟩)
set_option maxHeartbeats 1000000 in
set_option maxRecDepth 100000 in
theorem qX7_violations (l : Launch) (X : KX) (kS : Nat → Nat) (D : AD9) (Z : CZ) (hPI : PI (zP Z)) : CE l X kS yX7_violations wsX7_violations ({ frames := 4, cells := 0, slots := 0, locals := 88 }) [.ref (D.1 0)] (wC X D Z) (fun v9 w9 => ∃ t : Nat → Int, True ∧ v9 = some (.int (iI (plBad (zP Z) (Pn (zP Z)).toNat))) ∧ w9 = wC X D (zUA Z t)) 0 0 :=
  (uX7_violations l X D.1 D.2.1 D.2.2.1 D.2.2.2.1 D.2.2.2.2.1 D.2.2.2.2.2.1 D.2.2.2.2.2.2.1 D.2.2.2.2.2.2.2.1 D.2.2.2.2.2.2.2.2 Z hPI).toE.weak (fun v w ⟨A9, f0, hv, hw⟩ => ⟨A9, trivial, hv, hw⟩)
set_option maxHeartbeats 1000000 in
set_option maxRecDepth 100000 in
theorem qX7_loanCount (l : Launch) (X : KX) (kS : Nat → Nat) (D : AD9) (Z : CZ) (hPI : PI (zP Z)) : CE l X kS yX7_loanCount wsX7_loanCount ({ frames := 0, cells := 0, slots := 0, locals := 0 }) [.ref (D.1 0)] (wC X D Z) (fun v9 w9 => ∃ t : Nat → Int, True ∧ v9 = some (.int (iI (Pn (zP Z)))) ∧ w9 = wC X D (zUA Z t)) 0 0 :=
  (uX7_loanCount l X D.1 D.2.1 D.2.2.1 D.2.2.2.1 D.2.2.2.2.1 D.2.2.2.2.2.1 D.2.2.2.2.2.2.1 D.2.2.2.2.2.2.2.1 D.2.2.2.2.2.2.2.2 Z hPI).toE.weak (fun v w ⟨hv, hw⟩ => ⟨zA Z, trivial, hv, hw⟩)
set_option maxHeartbeats 1000000 in
set_option maxRecDepth 100000 in
theorem qX7_openCount (l : Launch) (X : KX) (kS : Nat → Nat) (D : AD9) (Z : CZ) (hPI : PI (zP Z)) : CE l X kS yX7_openCount wsX7_openCount ({ frames := 2, cells := 0, slots := 0, locals := 42 }) [.ref (D.1 0)] (wC X D Z) (fun v9 w9 => ∃ t : Nat → Int, True ∧ v9 = some (.int (iI (cnt (PL (zP Z)) (Pn (zP Z)).toNat))) ∧ w9 = wC X D (zUA Z t)) 0 0 :=
  (uX7_openCount l X D.1 D.2.1 D.2.2.1 D.2.2.2.1 D.2.2.2.2.1 D.2.2.2.2.2.1 D.2.2.2.2.2.2.1 D.2.2.2.2.2.2.2.1 D.2.2.2.2.2.2.2.2 Z hPI).toE.weak (fun v w ⟨hv, hw⟩ => ⟨zA Z, trivial, hv, hw⟩)
set_option maxHeartbeats 1000000 in
set_option maxRecDepth 100000 in
theorem qX7_totalBalance (l : Launch) (X : KX) (kS : Nat → Nat) (D : AD9) (Z : CZ) (hPI : PI (zP Z)) : CE l X kS yX7_totalBalance wsX7_totalBalance ({ frames := 1, cells := 0, slots := 0, locals := 22 }) [.ref (D.1 0)] (wC X D Z) (fun v9 w9 => ∃ t : Nat → Int, True ∧ v9 = some (.int (iI (sumF (fun i => PL (zP Z) i 1) (Pn (zP Z)).toNat))) ∧ w9 = wC X D (zUA Z t)) 0 0 :=
  (uX7_totalBalance l X D.1 D.2.1 D.2.2.1 D.2.2.2.1 D.2.2.2.2.1 D.2.2.2.2.2.1 D.2.2.2.2.2.2.1 D.2.2.2.2.2.2.2.1 D.2.2.2.2.2.2.2.2 Z hPI).toE.weak (fun v w ⟨hv, hw⟩ => ⟨zA Z, trivial, hv, hw⟩)
set_option maxHeartbeats 1000000 in
set_option maxRecDepth 100000 in
theorem qX7_totalDue (l : Launch) (X : KX) (kS : Nat → Nat) (D : AD9) (Z : CZ) (hPI : PI (zP Z)) : CE l X kS yX7_totalDue wsX7_totalDue ({ frames := 3, cells := 0, slots := 0, locals := 63 }) [.ref (D.1 0)] (wC X D Z) (fun v9 w9 => ∃ t : Nat → Int, True ∧ v9 = some (.int (iI (dueS (zP Z)))) ∧ w9 = wC X D (zUA Z t)) 0 0 :=
  (uX7_totalDue l X D.1 D.2.1 D.2.2.1 D.2.2.2.1 D.2.2.2.2.1 D.2.2.2.2.2.1 D.2.2.2.2.2.2.1 D.2.2.2.2.2.2.2.1 D.2.2.2.2.2.2.2.2 Z hPI).toE.weak (fun v w ⟨hv, hw⟩ => ⟨zA Z, trivial, hv, hw⟩)
set_option maxHeartbeats 1000000 in
set_option maxRecDepth 100000 in
theorem qX7_totalInterestAhead (l : Launch) (X : KX) (kS : Nat → Nat) (D : AD9) (Z : CZ) (hPI : PI (zP Z)) : CE l X kS yX7_totalInterestAhead wsX7_totalInterestAhead ({ frames := 4, cells := 0, slots := 0, locals := 88 }) [.ref (D.1 0)] (wC X D Z) (fun v9 w9 => ∃ t : Nat → Int, True ∧ v9 = some (.int (iI (sumF (fun k => runL 120 (PL (zP Z) k) 6 - PL (zP Z) k 6) (Pn (zP Z)).toNat))) ∧ w9 = wC X D (zUA Z t)) 0 0 :=
  (uX7_totalInterestAhead l X D.1 D.2.1 D.2.2.1 D.2.2.2.1 D.2.2.2.2.1 D.2.2.2.2.2.1 D.2.2.2.2.2.2.1 D.2.2.2.2.2.2.2.1 D.2.2.2.2.2.2.2.2 Z hPI).toE.weak (fun v w ⟨A9, f0, hv, hw⟩ => ⟨A9, trivial, hv, hw⟩)
set_option maxHeartbeats 1000000 in
set_option maxRecDepth 100000 in
theorem qX7_openLoan (l : Launch) (X : KX) (kS : Nat → Nat) (hst : l.stackTraces = false) (D : AD9) (Z : CZ) (n : Int) (hC : CV n Z) (k r m : Int) (hk9 : i32 k) (hr99 : i32 r) (hm99 : i32 m) : CT l X kS yX7_openLoan wsX7_openLoan ({ frames := 7, cells := 4, slots := 24, locals := 124 }) [.ref (D.1 0), .int (iI k), .int (iI r), .int (iI m)] (wC X D Z) (fun v9 w9 => ∃ t : Int × CZ, CV (n + 1) t.2 ∧ v9 = some (.int (iI t.1)) ∧ w9 = wC X D t.2) (fun E9 w9 => (E9 = "java/lang/IllegalArgumentException" ∨ E9 = "java/lang/IllegalStateException") ∧ w9 = wC X D Z) 4 24 :=
  (uX7_openLoan l X kS hst D.1 D.2.1 D.2.2.1 D.2.2.2.1 D.2.2.2.2.1 D.2.2.2.2.2.1 D.2.2.2.2.2.2.1 D.2.2.2.2.2.2.2.1 D.2.2.2.2.2.2.2.2 Z k r m hC.2.1 hC.2.2.1 hC.1 hk9 hr99 hm99).weak (fun v w ⟨f0, f1, hv, hw⟩ => ⟨((Pn (plNew (zP Z) k r m) - 1), _), CV_up hC (plNew_PI hC.1 f1 f0.1 f0.2.1 f0.2.2) ((PC_new hC.2.2.2.2 hC.1.1.1 hC.2.2.2.1).mono (by omega)), hv, hw⟩) (fun E w ⟨f0, hw⟩ => ⟨f0.imp (fun q => q.1) (fun q => q.1), hw⟩)
set_option maxHeartbeats 1000000 in
set_option maxRecDepth 100000 in
theorem qX7_pay (l : Launch) (X : KX) (kS : Nat → Nat) (hst : l.stackTraces = false) (D : AD9) (Z : CZ) (n : Int) (hC : CV n Z) (i : Int) (hi9 : i32 i) : CT l X kS yX7_pay wsX7_pay ({ frames := 7, cells := 2, slots := 12, locals := 124 }) [.ref (D.1 0), .int (iI i)] (wC X D Z) (fun v9 w9 => ∃ t : Int × CZ, CV (n + 1) t.2 ∧ v9 = some (.int (iI t.1)) ∧ w9 = wC X D t.2) (fun E9 w9 => (E9 = "java/lang/IndexOutOfBoundsException" ∨ E9 = "java/lang/IllegalStateException") ∧ w9 = wC X D Z) 2 12 :=
  (uX7_pay l X kS hst D.1 D.2.1 D.2.2.1 D.2.2.2.1 D.2.2.2.2.1 D.2.2.2.2.2.1 D.2.2.2.2.2.2.1 D.2.2.2.2.2.2.2.1 D.2.2.2.2.2.2.2.2 Z i hC.2.1 hC.2.2.1 hC.1 hi9).weak (fun v w ⟨f0, f1, hv, hw⟩ => ⟨((dueL (PL (zP Z) i.toNat)), _), CV_up hC (plPay_PI hC.1 f0.1 f0.2 f1) (PC_pay hC.2.2.2.2), hv, hw⟩) (fun E w ⟨f0, hw⟩ => ⟨f0.imp (fun q => q.1) (fun q => q.1), hw⟩)
set_option maxHeartbeats 1000000 in
set_option maxRecDepth 100000 in
theorem qX7_payExtra (l : Launch) (X : KX) (kS : Nat → Nat) (hst : l.stackTraces = false) (D : AD9) (Z : CZ) (n : Int) (hC : CV n Z) (i k y : Int) (hi9 : i32 i) (hk9 : i32 k) (hy : y = 0 ∨ y = 1) : CT l X kS yX7_payExtra wsX7_payExtra ({ frames := 7, cells := 3, slots := 18, locals := 124 }) [.ref (D.1 0), .int (iI i), .int (iI k), .int (iI y)] (wC X D Z) (fun v9 w9 => ∃ t : Int × CZ, CV (n + 1) t.2 ∧ v9 = some (.int (iI t.1)) ∧ w9 = wC X D t.2) (fun E9 w9 => (E9 = "java/lang/IndexOutOfBoundsException" ∨ E9 = "java/lang/IllegalArgumentException" ∨ E9 = "java/lang/IllegalStateException") ∧ w9 = wC X D Z) 3 18 :=
  (uX7_payExtra l X kS hst D.1 D.2.1 D.2.2.1 D.2.2.2.1 D.2.2.2.2.1 D.2.2.2.2.2.1 D.2.2.2.2.2.2.1 D.2.2.2.2.2.2.2.1 D.2.2.2.2.2.2.2.2 Z i k y hC.2.1 hC.2.2.1 hC.1 hi9 hk9 hy).weak (fun v w ⟨f0, f1, f2, f3, hv, hw⟩ => ⟨((PL (plRed (zP Z) i k y) i.toNat 1), _), CV_up hC (plRed_PI hC.1 f0.1 f0.2 f2 f1.1 f3) ((PC_red hC.2.2.2.2).mono (by omega)), hv, hw⟩) (fun E w ⟨f0, hw⟩ => ⟨f0.imp (fun q => q.1) (Or.imp (fun q => q.1) (fun q => q.1)), hw⟩)
set_option maxHeartbeats 1000000 in
set_option maxRecDepth 100000 in
theorem qX7_skipMonth (l : Launch) (X : KX) (kS : Nat → Nat) (hst : l.stackTraces = false) (D : AD9) (Z : CZ) (n : Int) (hC : CV n Z) (i : Int) (hi9 : i32 i) : CT l X kS yX7_skipMonth wsX7_skipMonth ({ frames := 7, cells := 2, slots := 12, locals := 124 }) [.ref (D.1 0), .int (iI i)] (wC X D Z) (fun v9 w9 => ∃ t : Int × CZ, CV (n + 1) t.2 ∧ v9 = some (.int (iI t.1)) ∧ w9 = wC X D t.2) (fun E9 w9 => (E9 = "java/lang/IndexOutOfBoundsException" ∨ E9 = "java/lang/IllegalStateException") ∧ w9 = wC X D Z) 2 12 :=
  (uX7_skipMonth l X kS hst D.1 D.2.1 D.2.2.1 D.2.2.2.1 D.2.2.2.2.1 D.2.2.2.2.2.1 D.2.2.2.2.2.2.1 D.2.2.2.2.2.2.2.1 D.2.2.2.2.2.2.2.2 Z i hC.2.1 hC.2.2.1 hC.1 hi9).weak (fun v w ⟨f0, f1, f2, f3, hv, hw⟩ => ⟨((fI (PL (zP Z) i.toNat 1) (PL (zP Z) i.toNat 2) (PL (zP Z) i.toNat 5)), _), CV_up hC (plL_PI hC.1 (defL_LI (hC.1.2.2.2 i.toNat (by omega)) f1 f2 f3)) ((PC_def hC.2.2.2.2).mono (by omega)), hv, hw⟩) (fun E w ⟨f0, hw⟩ => ⟨f0.imp (fun q => q.1) (fun q => q.1), hw⟩)
set_option maxHeartbeats 1000000 in
set_option maxRecDepth 100000 in
theorem qX7_changeRate (l : Launch) (X : KX) (kS : Nat → Nat) (hst : l.stackTraces = false) (D : AD9) (Z : CZ) (n : Int) (hC : CV n Z) (i k : Int) (hi9 : i32 i) (hk9 : i32 k) : CT l X kS yX7_changeRate wsX7_changeRate ({ frames := 7, cells := 3, slots := 18, locals := 124 }) [.ref (D.1 0), .int (iI i), .int (iI k)] (wC X D Z) (fun v9 w9 => ∃ t : Int × CZ, CV (n + 1) t.2 ∧ v9 = some (.int (iI t.1)) ∧ w9 = wC X D t.2) (fun E9 w9 => (E9 = "java/lang/IndexOutOfBoundsException" ∨ E9 = "java/lang/IllegalArgumentException" ∨ E9 = "java/lang/IllegalStateException") ∧ w9 = wC X D Z) 3 18 :=
  (uX7_changeRate l X kS hst D.1 D.2.1 D.2.2.1 D.2.2.2.1 D.2.2.2.2.1 D.2.2.2.2.2.1 D.2.2.2.2.2.2.1 D.2.2.2.2.2.2.2.1 D.2.2.2.2.2.2.2.2 Z i k hC.2.1 hC.2.2.1 hC.1 hi9 hk9).weak (fun v w ⟨f0, f1, f2, hv, hw⟩ => ⟨((setL (PL (zP Z) i.toNat) k (PL (zP Z) i.toNat 3) 4), _), CV_up hC (plL_PI hC.1 (setL_LI (hC.1.2.2.2 i.toNat (by omega)) f2 f1.1 f1.2 ((hC.1.2.2.2 i.toNat (by omega)).2.2.2.2.2.2.1 f2).1 (hC.1.2.2.2 i.toNat (by omega)).2.2.2.1.2)) ((PC_set hC.2.2.2.2).mono (by omega)), hv, hw⟩) (fun E w ⟨f0, hw⟩ => ⟨f0.imp (fun q => q.1) (Or.imp (fun q => q.1) (fun q => q.1)), hw⟩)
set_option maxHeartbeats 1000000 in
set_option maxRecDepth 100000 in
theorem qX7_extendTerm (l : Launch) (X : KX) (kS : Nat → Nat) (hst : l.stackTraces = false) (D : AD9) (Z : CZ) (n : Int) (hC : CV n Z) (i k : Int) (hi9 : i32 i) (hk9 : i32 k) : CT l X kS yX7_extendTerm wsX7_extendTerm ({ frames := 7, cells := 3, slots := 18, locals := 124 }) [.ref (D.1 0), .int (iI i), .int (iI k)] (wC X D Z) (fun v9 w9 => ∃ t : Int × CZ, CV (n + 1) t.2 ∧ v9 = some (.int (iI t.1)) ∧ w9 = wC X D t.2) (fun E9 w9 => (E9 = "java/lang/IndexOutOfBoundsException" ∨ E9 = "java/lang/IllegalArgumentException" ∨ E9 = "java/lang/IllegalStateException") ∧ w9 = wC X D Z) 3 18 :=
  (uX7_extendTerm l X kS hst D.1 D.2.1 D.2.2.1 D.2.2.2.1 D.2.2.2.2.1 D.2.2.2.2.2.1 D.2.2.2.2.2.2.1 D.2.2.2.2.2.2.2.1 D.2.2.2.2.2.2.2.2 Z i k hC.2.1 hC.2.2.1 hC.1 hi9 hk9).weak (fun v w ⟨f0, f1, f2, f3, hv, hw⟩ => ⟨((setL (PL (zP Z) i.toNat) (PL (zP Z) i.toNat 2) (PL (zP Z) i.toNat 3 + k) 4), _), CV_up hC (plL_PI hC.1 (setL_LI (hC.1.2.2.2 i.toNat (by omega)) f2 (hC.1.2.2.2 i.toNat (by omega)).2.1.1 (hC.1.2.2.2 i.toNat (by omega)).2.1.2 (by have := ((hC.1.2.2.2 i.toNat (by omega)).2.2.2.2.2.2.1 f2).1; omega) f3)) ((PC_set hC.2.2.2.2).mono (by omega)), hv, hw⟩) (fun E w ⟨f0, hw⟩ => ⟨f0.imp (fun q => q.1) (Or.imp (fun q => q.1) (fun q => q.1)), hw⟩)
set_option maxHeartbeats 1000000 in
set_option maxRecDepth 100000 in
theorem qX7_refinance (l : Launch) (X : KX) (kS : Nat → Nat) (hst : l.stackTraces = false) (D : AD9) (Z : CZ) (n : Int) (hC : CV n Z) (i k m : Int) (hi9 : i32 i) (hk9 : i32 k) (hm99 : i32 m) : CT l X kS yX7_refinance wsX7_refinance ({ frames := 7, cells := 4, slots := 24, locals := 124 }) [.ref (D.1 0), .int (iI i), .int (iI k), .int (iI m)] (wC X D Z) (fun v9 w9 => ∃ t : Int × CZ, CV (n + 1) t.2 ∧ v9 = some (.int (iI t.1)) ∧ w9 = wC X D t.2) (fun E9 w9 => (E9 = "java/lang/IndexOutOfBoundsException" ∨ E9 = "java/lang/IllegalArgumentException" ∨ E9 = "java/lang/IllegalStateException") ∧ w9 = wC X D Z) 4 24 :=
  (uX7_refinance l X kS hst D.1 D.2.1 D.2.2.1 D.2.2.2.1 D.2.2.2.2.1 D.2.2.2.2.2.1 D.2.2.2.2.2.2.1 D.2.2.2.2.2.2.2.1 D.2.2.2.2.2.2.2.2 Z i k m hC.2.1 hC.2.2.1 hC.1 hi9 hk9 hm99).weak (fun v w ⟨f0, f1, f2, hv, hw⟩ => ⟨((setL (PL (zP Z) i.toNat) k m 4), _), CV_up hC (plL_PI hC.1 (setL_LI (hC.1.2.2.2 i.toNat (by omega)) f2 f1.1.1 f1.1.2 f1.2.1 f1.2.2)) ((PC_set hC.2.2.2.2).mono (by omega)), hv, hw⟩) (fun E w ⟨f0, hw⟩ => ⟨f0.imp (fun q => q.1) (Or.imp (fun q => q.1) (fun q => q.1)), hw⟩)
set_option maxHeartbeats 1000000 in
set_option maxRecDepth 100000 in
theorem qX7_spendExtra (l : Launch) (X : KX) (kS : Nat → Nat) (hst : l.stackTraces = false) (D : AD9) (Z : CZ) (n : Int) (hC : CV n Z) (k : Int) (hk9 : i32 k) : CT l X kS yX7_spendExtra wsX7_spendExtra ({ frames := 7, cells := 1, slots := 6, locals := 132 }) [.ref (D.1 0), .int (iI k)] (wC X D Z) (fun v9 w9 => ∃ t : Int × CZ, CV (n + 1) t.2 ∧ v9 = some (.int (iI t.1)) ∧ w9 = wC X D t.2) (fun E9 w9 => (E9 = "java/lang/IllegalArgumentException") ∧ w9 = wC X D Z) 1 6 :=
  (uX7_spendExtra l X kS hst D.1 D.2.1 D.2.2.1 D.2.2.2.1 D.2.2.2.2.1 D.2.2.2.2.2.1 D.2.2.2.2.2.2.1 D.2.2.2.2.2.2.2.1 D.2.2.2.2.2.2.2.2 Z k hC.2.1 hC.2.2.1 hC.1 hk9).weak (fun v w ⟨f0, hv, hw⟩ => ⟨((k - (spF 1 6 (zP Z) k).2), _), CV_up hC (spF_PI 6 (zP Z) k hC.1).1 ((PC_sp 1 6 (zP Z) k hC.2.2.2.2).mono (by omega)), hv, hw⟩) (fun E w ⟨f0, hw⟩ => ⟨f0.1, hw⟩)
set_option maxHeartbeats 1000000 in
set_option maxRecDepth 100000 in
theorem qX7_payAll (l : Launch) (X : KX) (kS : Nat → Nat) (D : AD9) (Z : CZ) (n : Int) (hC : CV n Z) : CE l X kS yX7_payAll wsX7_payAll ({ frames := 4, cells := 0, slots := 0, locals := 128 }) [.ref (D.1 0)] (wC X D Z) (fun v9 w9 => ∃ t : Int × CZ, CV (n + 1) t.2 ∧ v9 = some (.int (iI t.1)) ∧ w9 = wC X D t.2) 0 0 :=
  (uX7_payAll l X D.1 D.2.1 D.2.2.1 D.2.2.2.1 D.2.2.2.2.1 D.2.2.2.2.2.1 D.2.2.2.2.2.2.1 D.2.2.2.2.2.2.2.1 D.2.2.2.2.2.2.2.2 Z hC.2.1 hC.2.2.1 hC.1).toE.weak (fun v w ⟨hv, hw⟩ => ⟨(plSum (zP Z) (Pn (zP Z)).toNat, _), CV_up hC (plAll_PI hC.1 _ (by have := hC.1.1; omega)) (PC_all hC.2.2.2.2 _), hv, hw⟩)
