/-! the reference's walk beside the loan's payments -/
def pay1 (L : Nat → Int) : Nat → Int := if 0 < L 1 then payL L else L
theorem runL_r : ∀ (n : Nat) (L : Nat → Int), runL (n + 1) L = pay1 (runL n L)
  | 0, L => rfl
  | n + 1, L => by
    by_cases h : 0 < L 1
    · rw [runL_s h, runL_s h]; exact runL_r n (payL L)
    · rw [runL_e (by omega), runL_e (by omega)]; exact (if_neg h).symm
/-- walk K stands where loan L stands -/
def SR (L K : Nat → Int) (r A m : Int) : Prop := LI L ∧ K 12 = L 1 ∧ (0 < L 1 → K 13 = L 5 ∧ m = L 3 ∧ r = L 2 ∧ A = L 4)
theorem SR_0 {w M : Nat → Int} {i : Int} (h : LI (WL w i)) : SR (WL w i) (bgM M (wOf w i 1) (wOf w i 5)) (wOf w i 2) (wOf w i 4) (wOf w i 3) := ⟨h, rfl, fun _ => ⟨rfl, rfl, rfl, rfl⟩⟩
theorem SR_s {L K : Nat → Int} {r A m : Int} (h : SR L K r A m) (ho : 0 < L 1) : SR (payL L) (stM K r A m) r A (m - 1) ∧ stM K r A m 14 = fI (L 1) (L 2) (L 5) ∧ stM K r A m 15 = dueL L ∧ stM K r A m 17 = K 17 + fI (L 1) (L 2) (L 5) ∧ stM K r A m 16 = K 16 + 1 ∧ 1 ≤ m ∧ m ≤ 120 := by
  obtain ⟨hl, h12, hs⟩ := h
  obtain ⟨hc, hm, hr, hA⟩ := hs ho
  have hpc := payL_cases hl ho
  have hLI := payL_LI hl ho
  have hw : fW (K 12) r (K 13) = fW (L 1) (L 2) (L 5) := by rw [h12, hc, hr]
  have hd : fD (fW (K 12) r (K 13)) A m = dueL L := by
    rw [hw, hA, hm]; rfl
  have h3 := hl.2.2.2.2.2.2.1 ho
  have h3b := hl.2.2.2.1
  refine ⟨⟨hLI, ?_, fun hp => ?_⟩, ?_, hd, ?_, rfl, by omega, by omega⟩
  · rw [stM_12, hd, hw]; rfl
  · have hN : payL L 1 = fW (L 1) (L 2) (L 5) - dueL L := rfl
    have z : fW (L 1) (L 2) (L 5) - dueL L ≠ 0 := by omega
    refine ⟨?_, ?_, hr, ?_⟩
    · rw [stM_13, h12, hc, hr]; exact (fz_n z).symm
    · have e3 : payL L 3 = L 3 + (-1) := fz_n z
      omega
    · rw [hA]; exact (fz_n z).symm
  · show fI (K 12) r (K 13) = _
    rw [h12, hc, hr]
  · show K 17 + fI (K 12) r (K 13) = _
    rw [h12, hc, hr]
/-- the last payment's figures -/
def RQ (L K : Nat → Int) (op : Int) : Prop := (op = 1 ∧ 0 < L 1 ∧ K 14 = fI (L 1) (L 2) (L 5) ∧ K 15 = dueL L) ∨ (op = 0 ∧ L 1 ≤ 0)
theorem RQ_b {L K : Nat → Int} {op : Int} (h : RQ L K op) : op = 0 ∨ op = 1 := h.elim (fun q => Or.inr q.1) (fun q => Or.inl q.1)
theorem SR_y {n : Nat} {L K : Nat → Int} {r A m : Int} (h : SR (runL n L) K r A m) (ho : 0 < K 12) : SR (runL (n + 1) L) (stM K r A m) r A (m - 1) ∧ RQ (runL n L) (stM K r A m) 1 := by
  have h1 : 0 < runL n L 1 := by have := h.2.1; omega
  have hs := SR_s h h1
  rw [runL_r]
  have e : pay1 (runL n L) = payL (runL n L) := if_pos h1
  rw [e]
  exact ⟨hs.1, Or.inl ⟨rfl, h1, hs.2.1, hs.2.2.1⟩⟩
theorem SR_n {n : Nat} {L K : Nat → Int} {r A m j : Int} (h : SR (runL n L) K r A m) (ho : K 12 ≤ 0) : SR (runL (n + 1) L) K r A j ∧ RQ (runL n L) K 0 := by
  have h1 : runL n L 1 ≤ 0 := by have := h.2.1; omega
  rw [runL_r]
  have e : pay1 (runL n L) = runL n L := if_neg (by omega)
  rw [e]
  exact ⟨⟨h.1, h.2.1, fun q => absurd q (by omega)⟩, Or.inr ⟨rfl, h1⟩⟩
/-- payments until no more than a is left -/
def untL : Nat → (Nat → Int) → Int → Int
  | 0, _, _ => 0
  | n + 1, L, a => if a < L 1 then untL n (payL L) a + 1 else 0
theorem untL_s {n : Nat} {L : Nat → Int} {a : Int} (h : a < L 1) : untL (n + 1) L a = untL n (payL L) a + 1 := if_pos h
theorem untL_e {n : Nat} {L : Nat → Int} {a : Int} (h : L 1 ≤ a) : untL n L a = 0 := by
  cases n with
  | zero => rfl
  | succ n => exact if_neg (by omega)
theorem untL_c : ∀ (n : Nat) (L : Nat → Int), untL n L 0 = cntL n L
  | 0, _ => rfl
  | n + 1, L => by
    by_cases h : 0 < L 1
    · rw [untL_s h, cntL_s h, untL_c n]
    · rw [untL_e (by omega), cntL_e (by omega)]
theorem cntL_r : ∀ (n : Nat) (L : Nat → Int), 0 ≤ cntL n L ∧ cntL n L ≤ n
  | 0, _ => ⟨by show (0:Int) ≤ 0; omega, by show (0:Int) ≤ 0; omega⟩
  | n + 1, L => by
    by_cases h : 0 < L 1
    · rw [cntL_s h]
      have := cntL_r n (payL L)
      omega
    · rw [cntL_e (by omega)]; omega
/-- sums over the first n loans of the row -/
def wCost (w : Nat → Int) : Nat → Int
  | 0 => 0
  | n + 1 => wCost w n + (runL 120 (WL w n) 6 - WL w n 6)
theorem wCost_s {w : Nat → Int} {i : Int} (h : 0 ≤ i) : wCost w (i + 1).toNat = wCost w i.toNat + (runL 120 (WL w i) 6 - WL w i 6) := by
  rw [show (i + 1).toNat = i.toNat + 1 by omega]
  show wCost w i.toNat + (runL 120 (WL w (i.toNat : Int)) 6 - WL w (i.toNat : Int) 6) = _
  rw [show ((i.toNat : Nat) : Int) = i by omega]
theorem cost_0 {L : Nat → Int} (h : L 1 ≤ 0) : runL 120 L 6 - L 6 = 0 := by
  rw [runL_e h]; omega
def wMost (w : Nat → Int) : Nat → Int
  | 0 => 0
  | n + 1 => max (wMost w n) (cntL 120 (WL w n))
theorem wMost_s {w : Nat → Int} {i : Int} (h : 0 ≤ i) : wMost w (i + 1).toNat = max (wMost w i.toNat) (cntL 120 (WL w i)) := by
  rw [show (i + 1).toNat = i.toNat + 1 by omega]
  show max (wMost w i.toNat) (cntL 120 (WL w (i.toNat : Int))) = _
  rw [show ((i.toNat : Nat) : Int) = i by omega]
def wBad (w : Nat → Int) : Nat → Int
  | 0 => 0
  | n + 1 => wBad w n + (if 0 < WL w n 1 ∧ WL w n 4 < lastL 120 (WL w n) 0 then 1 else 0)
theorem wBad_y {w : Nat → Int} {i : Int} (h : 0 ≤ i) (hc : 0 < wOf w i 1 ∧ wOf w i 4 < lastL 120 (WL w i) 0) : wBad w (i + 1).toNat = wBad w i.toNat + 1 := by
  rw [show (i + 1).toNat = i.toNat + 1 by omega]
  show wBad w i.toNat + (if 0 < wOf w (i.toNat : Int) 1 ∧ wOf w (i.toNat : Int) 4 < lastL 120 (WL w (i.toNat : Int)) 0 then 1 else 0) = _
  rw [show ((i.toNat : Nat) : Int) = i by omega, if_pos hc]
theorem wBad_n {w : Nat → Int} {i : Int} (h : 0 ≤ i) (hc : ¬ (0 < wOf w i 1 ∧ wOf w i 4 < lastL 120 (WL w i) 0)) : wBad w (i + 1).toNat = wBad w i.toNat := by
  rw [show (i + 1).toNat = i.toNat + 1 by omega]
  show wBad w i.toNat + (if 0 < wOf w (i.toNat : Int) 1 ∧ wOf w (i.toNat : Int) 4 < lastL 120 (WL w (i.toNat : Int)) 0 then 1 else 0) = _
  rw [show ((i.toNat : Nat) : Int) = i by omega, if_neg hc]
  omega
/-- how many skips keep the installment within a -/
noncomputable def skpL : Nat → (Nat → Int) → Int → Int
  | 0, _, _ => 0
  | n + 1, L, a => if 0 < L 1 ∧ L 9 < 6 ∧ fW (L 1) (L 2) (L 5) ≤ 9999999 then (if defL L 4 ≤ a then skpL n (defL L) a + 1 else 0) else 0
theorem skpL_y {n : Nat} {L : Nat → Int} {a : Int} (h : 0 < L 1 ∧ L 9 < 6 ∧ fW (L 1) (L 2) (L 5) ≤ 9999999) (h2 : defL L 4 ≤ a) : skpL (n + 1) L a = skpL n (defL L) a + 1 := (if_pos h).trans (if_pos h2)
theorem skpL_m {n : Nat} {L : Nat → Int} {a : Int} (h2 : ¬ defL L 4 ≤ a) : skpL (n + 1) L a = 0 := by
  by_cases h : 0 < L 1 ∧ L 9 < 6 ∧ fW (L 1) (L 2) (L 5) ≤ 9999999
  · exact (if_pos h).trans (if_neg h2)
  · exact if_neg h
theorem skpL_n {n : Nat} {L : Nat → Int} {a : Int} (h : ¬ (0 < L 1 ∧ L 9 < 6 ∧ fW (L 1) (L 2) (L 5) ≤ 9999999)) : skpL n L a = 0 := by
  cases n with
  | zero => rfl
  | succ n => exact if_neg h
