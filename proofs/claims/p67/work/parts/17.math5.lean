/-! the reference's row: 0 count, 1 booked, 2.. the book, 62.. the loans -/
def WI (w : Nat → Int) : Prop := (0 ≤ w 0 ∧ w 0 ≤ 6) ∧ (0 ≤ w 1 ∧ w 1 ≤ 20) ∧ ∀ i : Int, 0 ≤ i → i < w 0 → LI (WL w i)
theorem wOf_s {w : Nat → Int} {i k v : Int} : wOf (wPut w i k v) i k = v := uI_s
theorem wOf_n {w : Nat → Int} {i k v j q : Int} (hi : 0 ≤ i) (hk : 0 ≤ k) (hk2 : k < 10) (hj : 0 ≤ j) (hq : 0 ≤ q) (hq2 : q < 10) (h : i ≠ j ∨ k ≠ q) : wOf (wPut w i k v) j q = wOf w j q := uI_n (by omega)
theorem wPut_lo {w : Nat → Int} {i k v : Int} {j : Nat} (hi : 0 ≤ i) (hk : 0 ≤ k) (hj : j < 62) : wPut w i k v j = w j := uI_n (by omega)
/-- the book shifted by one entry behind place i -/
def wSh (w : Nat → Int) (i : Int) : Nat → Int := fun j => if 2 + i < (j : Int) ∧ j < 62 then w (j - 3) else w j
def wBook (w : Nat → Int) (lo am it : Int) : Nat → Int := uI (uI (uI (uI (wSh w 2) 2 lo) 3 am) 4 it) 1 (min (w 1 + 1) 20)
theorem wOf_b {w : Nat → Int} {lo am it i k : Int} (hi : 0 ≤ i) (hk : 0 ≤ k) : wOf (wBook w lo am it) i k = wOf w i k := by
  unfold wOf wBook
  rw [uI_n (by omega), uI_n (by omega), uI_n (by omega), uI_n (by omega)]
  exact if_neg (by omega)
theorem wBook_0 (w : Nat → Int) (lo am it : Int) : wBook w lo am it 0 = w 0 := by
  unfold wBook
  rw [uI_n (by omega), uI_n (by omega), uI_n (by omega), uI_n (by omega)]
  exact if_neg (by omega)
theorem wBook_1 (w : Nat → Int) (lo am it : Int) : wBook w lo am it 1 = min (w 1 + 1) 20 := uI_s
def wClose (w : Nat → Int) (i : Int) : Nat → Int := if wOf w i 1 ≤ 0 then wPut (wPut (wPut w i 3 0) i 4 0) i 5 0 else w
/-- loan i of w is f, the other loans and the book are those of v -/
def WR (v w : Nat → Int) (i : Int) (f : Nat → Int) : Prop := (∀ k : Nat, k < 10 → wOf w i k = f k) ∧ (∀ j : Int, 0 ≤ j → j ≠ i → ∀ k : Nat, k < 10 → wOf w j k = wOf v j k) ∧ ∀ j : Nat, j < 62 → w j = v j
theorem WR.rf (w : Nat → Int) (i : Int) : WR w w i (WL w i) := ⟨fun _ _ => rfl, fun _ _ _ _ _ => rfl, fun _ _ => rfl⟩
theorem WR.put {v w : Nat → Int} {i k x : Int} {f : Nat → Int} (h : WR v w i f) (hi : 0 ≤ i) (hk : 0 ≤ k) (hk2 : k < 10) : WR v (wPut w i k x) i (uI f k.toNat x) := by
  refine ⟨fun q hq => ?_, fun j hj hne q hq => ?_, fun j hj => ?_⟩
  · by_cases e : q = k.toNat
    · rw [e, uI_s, show ((k.toNat : Nat) : Int) = k by omega]; exact wOf_s
    · rw [uI_n e, ← h.1 q hq]; exact wOf_n hi hk hk2 hi (by omega) (by omega) (Or.inr (by omega))
  · rw [← h.2.1 j hj hne q hq]; exact wOf_n hi hk hk2 hj (by omega) (by omega) (Or.inl (by omega))
  · rw [wPut_lo hi hk hj]; exact h.2.2 j hj
theorem WR.ext {v w : Nat → Int} {i : Int} {f g : Nat → Int} (h : WR v w i f) (e : ∀ k, k < 10 → f k = g k) : WR v w i g := ⟨fun k hk => (h.1 k hk).trans (e k hk), h.2⟩
def wPay (w : Nat → Int) (i : Int) : Nat → Int :=
  let L := WL w i
  let w1 := wPut w i 1 (fW (L 1) (L 2) (L 5) - dueL L)
  let w2 := wPut w1 i 5 (fC (L 1) (L 2) (L 5))
  let w3 := wPut w2 i 6 (wOf w2 i 6 + fI (L 1) (L 2) (L 5))
  let w4 := wPut w3 i 7 (wOf w3 i 7 + dueL L)
  let w5 := wPut w4 i 8 (wOf w4 i 8 + 1)
  let w6 := wPut w5 i 3 (wOf w5 i 3 + (-1))
  wClose (wBook w6 i (dueL L) (fI (L 1) (L 2) (L 5))) i
theorem lastL_r : ∀ (n : Nat) (L : Nat → Int) (d : Int), LI L → 0 ≤ d → d ≤ 10249999 → 0 ≤ lastL n L d ∧ lastL n L d ≤ 10249999
  | 0, _, d, _, h1, h2 => ⟨h1, h2⟩
  | n + 1, L, d, h, h1, h2 => by
    by_cases ho : 0 < L 1
    · rw [lastL_s ho]
      have := dueL_r h
      exact lastL_r n _ _ (payL_LI h ho) (by omega) (by omega)
    · rw [lastL_e (by omega)]; exact ⟨h1, h2⟩
