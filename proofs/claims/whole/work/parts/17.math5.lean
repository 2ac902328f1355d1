/-! the reference's row: 0 count, 1 booked, 2.. the book, 62.. the loans -/
def WI (w : Nat → Int) : Prop := (0 ≤ w 0 ∧ w 0 ≤ 6) ∧ (0 ≤ w 1 ∧ w 1 ≤ 20) ∧ ∀ i : Int, 0 ≤ i → i < w 0 → LI (WL w i)
theorem wOf_s {w : Nat → Int} {i k v : Int} : wOf (wPut w i k v) i k = v := uI_s
theorem wOf_n {w : Nat → Int} {i k v j q : Int} (hi : 0 ≤ i) (hk : 0 ≤ k) (hk2 : k < 10) (hj : 0 ≤ j) (hq : 0 ≤ q) (hq2 : q < 10) (h : i ≠ j ∨ k ≠ q) : wOf (wPut w i k v) j q = wOf w j q := uI_n (by omega)
theorem wPut_lo {w : Nat → Int} {i k v : Int} {j : Nat} (hi : 0 ≤ i) (hk : 0 ≤ k) (hj : j < 62) : wPut w i k v j = w j := uI_n (by omega)
/-- the book shifted by one entry behind place i -/
def wSh (w : Nat → Int) (i : Int) : Nat → Int := fun j => if 2 + i < (j : Int) ∧ j < 62 then w (j - 3) else w j
theorem wSh_0 (w : Nat → Int) : wSh w 59 = w := by
  funext j
  exact if_neg (by omega)
theorem wSh_s {w : Nat → Int} {i : Int} (h : 3 ≤ i) (h2 : i ≤ 59) : uI (wSh w i) (2 + i).toNat (wSh w i (2 + i - 3).toNat) = wSh w (i - 1) := by
  funext j
  by_cases e : j = (2 + i).toNat
  · rw [e, uI_s]
    have e1 : wSh w i (2 + i - 3).toNat = w (2 + i - 3).toNat := if_neg (by omega)
    have e2 : wSh w (i - 1) (2 + i).toNat = w ((2 + i).toNat - 3) := if_pos (by omega)
    rw [e1, e2, show (2 + i - 3).toNat = (2 + i).toNat - 3 by omega]
  · rw [uI_n e]
    unfold wSh
    by_cases c : 2 + i < (j : Int) ∧ j < 62
    · rw [if_pos c, if_pos (by omega)]
    · rw [if_neg c, if_neg (by omega)]
def wBook (w : Nat → Int) (lo am it : Int) : Nat → Int := uI (uI (uI (uI (wSh w 2) 2 lo) 3 am) 4 it) 1 (min (w 1 + 1) 20)
theorem wOf_b {w : Nat → Int} {lo am it i k : Int} (hi : 0 ≤ i) (hk : 0 ≤ k) : wOf (wBook w lo am it) i k = wOf w i k := by
  unfold wOf wBook
  rw [uI_n (by omega), uI_n (by omega), uI_n (by omega), uI_n (by omega)]
  exact if_neg (by omega)
theorem wBook_0 (w : Nat → Int) (lo am it : Int) : wBook w lo am it 0 = w 0 := by
  unfold wBook
  rw [uI_n (by omega), uI_n (by omega), uI_n (by omega), uI_n (by omega)]
  exact if_neg (by omega)
theorem wBook_1 (w : Nat → Int) (lo am it : Int) : wBook w lo am it 1 = min (w 1 + 1) 20 := uI_s
def wClose (w : Nat → Int) (i : Int) : Nat → Int := if wOf w i 1 ≤ 0 then wPut (wPut (wPut w i 3 0) i 4 0) i 5 0 else w
/-- loan i of w is f, the other loans and the book are those of v -/
def WR (v w : Nat → Int) (i : Int) (f : Nat → Int) : Prop := (∀ k : Nat, k < 10 → wOf w i k = f k) ∧ (∀ j : Int, 0 ≤ j → j ≠ i → ∀ k : Nat, k < 10 → wOf w j k = wOf v j k) ∧ ∀ j : Nat, j < 62 → w j = v j
theorem WR.rf (w : Nat → Int) (i : Int) : WR w w i (WL w i) := ⟨fun _ _ => rfl, fun _ _ _ _ _ => rfl, fun _ _ => rfl⟩
theorem WR.put {v w : Nat → Int} {i k x : Int} {f : Nat → Int} (h : WR v w i f) (hi : 0 ≤ i) (hk : 0 ≤ k) (hk2 : k < 10) : WR v (wPut w i k x) i (uI f k.toNat x) := by
  refine ⟨fun q hq => ?_, fun j hj hne q hq => ?_, fun j hj => ?_⟩
  · by_cases e : q = k.toNat
    · rw [e, uI_s, show ((k.toNat : Nat) : Int) = k by omega]; exact wOf_s
    · rw [uI_n e, ← h.1 q hq]; exact wOf_n hi hk hk2 hi (by omega) (by omega) (Or.inr (by omega))
  · rw [← h.2.1 j hj hne q hq]; exact wOf_n hi hk hk2 hj (by omega) (by omega) (Or.inl (by omega))
  · rw [wPut_lo hi hk hj]; exact h.2.2 j hj
theorem WR.ext {v w : Nat → Int} {i : Int} {f g : Nat → Int} (h : WR v w i f) (e : ∀ k, k < 10 → f k = g k) : WR v w i g := ⟨fun k hk => (h.1 k hk).trans (e k hk), h.2⟩
def wPay (w : Nat → Int) (i : Int) : Nat → Int :=
  let L := WL w i
  let w1 := wPut w i 1 (fW (L 1) (L 2) (L 5) - dueL L)
  let w2 := wPut w1 i 5 (fC (L 1) (L 2) (L 5))
  let w3 := wPut w2 i 6 (wOf w2 i 6 + fI (L 1) (L 2) (L 5))
  let w4 := wPut w3 i 7 (wOf w3 i 7 + dueL L)
  let w5 := wPut w4 i 8 (wOf w4 i 8 + 1)
  let w6 := wPut w5 i 3 (wOf w5 i 3 + (-1))
  wClose (wBook w6 i (dueL L) (fI (L 1) (L 2) (L 5))) i
/-- how many payments, n at most -/
def cntL : Nat → (Nat → Int) → Int
  | 0, _ => 0
  | n + 1, L => if 0 < L 1 then cntL n (payL L) + 1 else 0
theorem cntL_s {n : Nat} {L : Nat → Int} (h : 0 < L 1) : cntL (n + 1) L = cntL n (payL L) + 1 := if_pos h
theorem cntL_e {n : Nat} {L : Nat → Int} (h : L 1 ≤ 0) : cntL n L = 0 := by
  cases n with
  | zero => rfl
  | succ n => exact if_neg (by omega)
theorem lastL_r : ∀ (n : Nat) (L : Nat → Int) (d : Int), LI L → 0 ≤ d → d ≤ 10249999 → 0 ≤ lastL n L d ∧ lastL n L d ≤ 10249999
  | 0, _, d, _, h1, h2 => ⟨h1, h2⟩
  | n + 1, L, d, h, h1, h2 => by
    by_cases ho : 0 < L 1
    · rw [lastL_s ho]
      have := dueL_r h
      exact lastL_r n _ _ (payL_LI h ho) (by omega) (by omega)
    · rw [lastL_e (by omega)]; exact ⟨h1, h2⟩
/-- the reference's walk pays what the class's loan pays -/
theorem wa_run {r A : Int} : ∀ (n j : Nat) (L M : Nat → Int), LI L → M 12 = L 1 → (0 < L 1 → M 13 = L 5 ∧ L 3 = n ∧ r = L 2 ∧ A = L 4) → waM r A n M 12 = 0 ∧ waM r A n M 15 = lastL (n + j) L (M 15) ∧ waM r A n M 17 = M 17 + (runL (n + j) L 6 - L 6) ∧ waM r A n M 16 = M 16 + cntL (n + j) L
  | n, j, L, M, h, hb, ho => by
    by_cases h1 : 0 < L 1
    · obtain ⟨hc, hm, hr, hA⟩ := ho h1
      have hpc := payL_cases h h1
      have hLI := payL_LI h h1
      match n, hm with
      | 0, hm =>
        exfalso
        have := (h.2.2.2.2.2.2.1 h1).1
        omega
      | n + 1, hm =>
        have e : waM r A (n + 1) M = waM r A n (stM M r A ((n : Int) + 1)) := if_pos (by omega)
        have hw : fW (M 12) r (M 13) = fW (L 1) (L 2) (L 5) := by rw [hb, hc, hr]
        have hd : fD (fW (M 12) r (M 13)) A ((n : Int) + 1) = dueL L := by
          rw [hw, hA]
          unfold dueL
          rw [show (n : Int) + 1 = L 3 by omega]
        have h12 : stM M r A ((n : Int) + 1) 12 = payL L 1 := by
          rw [stM_12, hd, hw]; rfl
        have hN : payL L 1 = fW (L 1) (L 2) (L 5) - dueL L := rfl
        rw [e, show n + 1 + j = (n + j) + 1 by omega, lastL_s h1, runL_s h1, cntL_s h1]
        have ih := wa_run (r := r) (A := A) n j (payL L) (stM M r A ((n : Int) + 1)) hLI h12 (fun hp => by
          have z : fW (L 1) (L 2) (L 5) - dueL L ≠ 0 := by omega
          refine ⟨?_, ?_, hr, ?_⟩
          · rw [stM_13, hb, hc, hr]; exact (fz_n z).symm
          · show fz _ (L 3 + (-1)) = _
            rw [fz_n z]; omega
          · rw [hA]; exact (fz_n z).symm)
        have e15 : stM M r A ((n : Int) + 1) 15 = dueL L := hd
        have e17 : stM M r A ((n : Int) + 1) 17 = M 17 + fI (L 1) (L 2) (L 5) := by
          show M 17 + fI (M 12) r (M 13) = _
          rw [hb, hc, hr]
        have e16 : stM M r A ((n : Int) + 1) 16 = M 16 + 1 := rfl
        have e6 : payL L 6 = L 6 + fI (L 1) (L 2) (L 5) := rfl
        rw [e15, e17, e16, e6] at ih
        refine ⟨ih.1, ih.2.1, ?_, ?_⟩
        · rw [ih.2.2.1]; omega
        · rw [ih.2.2.2]; omega
    · rw [waM_e (by omega), lastL_e (by omega), runL_e (by omega), cntL_e (by omega)]
      have := h.1
      refine ⟨by omega, rfl, by omega, by omega⟩
theorem ahM_run {M w : Nat → Int} {i : Int} (h : LI (WL w i)) (j : Nat) : ahM M w i 12 = 0 ∧ ahM M w i 15 = lastL ((WL w i 3).toNat + j) (WL w i) 0 ∧ ahM M w i 17 = runL ((WL w i 3).toNat + j) (WL w i) 6 - WL w i 6 ∧ ahM M w i 16 = cntL ((WL w i 3).toNat + j) (WL w i) := by
  have hr := wa_run (r := WL w i 2) (A := WL w i 4) (WL w i 3).toNat j (WL w i) (bgM M (WL w i 1) (WL w i 5)) h rfl (fun ho => ⟨rfl, by have := h.2.2.2.1; omega, rfl, rfl⟩)
  have e15 : bgM M (WL w i 1) (WL w i 5) 15 = 0 := rfl
  have e17 : bgM M (WL w i 1) (WL w i 5) 17 = 0 := rfl
  have e16 : bgM M (WL w i 1) (WL w i 5) 16 = 0 := rfl
  rw [e15, e17, e16, Int.zero_add, Int.zero_add] at hr
  exact hr
theorem ahM_120 {M w : Nat → Int} {i : Int} (h : LI (WL w i)) : ahM M w i 12 = 0 ∧ ahM M w i 15 = lastL 120 (WL w i) 0 ∧ ahM M w i 17 = runL 120 (WL w i) 6 - WL w i 6 ∧ ahM M w i 16 = cntL 120 (WL w i) := by
  have h3 := h.2.2.2.1
  have := ahM_run (M := M) h (120 - (WL w i 3).toNat)
  rw [show (WL w i 3).toNat + (120 - (WL w i 3).toNat) = 120 by omega] at this
  exact this
